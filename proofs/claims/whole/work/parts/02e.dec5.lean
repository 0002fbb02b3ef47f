/-! what the bytes decode to -/
theorem DL_law_0 : decode jL_law.2.1 0 = .ok (.new 7, 3) := by decide +kernel
theorem DL_law_3 : decode jL_law.2.1 3 = .ok (.dup, 1) := by decide +kernel
theorem DL_law_4 : decode jL_law.2.1 4 = .ok (.invokespecial 9, 3) := by decide +kernel
theorem DL_law_7 : decode jL_law.2.1 7 = .ok (.astore_n 1, 1) := by decide +kernel
theorem DL_law_8 : decode jL_law.2.1 8 = .ok (.new 10, 3) := by decide +kernel
theorem DL_law_11 : decode jL_law.2.1 11 = .ok (.dup, 1) := by decide +kernel
theorem DL_law_12 : decode jL_law.2.1 12 = .ok (.invokespecial 12, 3) := by decide +kernel
theorem DL_law_15 : decode jL_law.2.1 15 = .ok (.astore_n 2, 1) := by decide +kernel
theorem DL_law_16 : decode jL_law.2.1 16 = .ok (.iconst 0, 1) := by decide +kernel
theorem DL_law_17 : decode jL_law.2.1 17 = .ok (.istore_n 3, 1) := by decide +kernel
theorem DL_law_18 : decode jL_law.2.1 18 = .ok (.iload_n 3, 1) := by decide +kernel
theorem DL_law_19 : decode jL_law.2.1 19 = .ok (.aload_n 0, 1) := by decide +kernel
theorem DL_law_20 : decode jL_law.2.1 20 = .ok (.arraylength, 1) := by decide +kernel
theorem DL_law_21 : decode jL_law.2.1 21 = .ok (.bipush 6, 2) := by decide +kernel
theorem DL_law_23 : decode jL_law.2.1 23 = .ok (.isub, 1) := by decide +kernel
theorem DL_law_24 : decode jL_law.2.1 24 = .ok (.if_icmp .gt 1090, 3) := by decide +kernel
theorem DL_law_27 : decode jL_law.2.1 27 = .ok (.aload_n 0, 1) := by decide +kernel
theorem DL_law_28 : decode jL_law.2.1 28 = .ok (.iload_n 3, 1) := by decide +kernel
theorem DL_law_29 : decode jL_law.2.1 29 = .ok (.iaload, 1) := by decide +kernel
theorem DL_law_30 : decode jL_law.2.1 30 = .ok (.bipush 31, 2) := by decide +kernel
theorem DL_law_32 : decode jL_law.2.1 32 = .ok (.iand, 1) := by decide +kernel
theorem DL_law_33 : decode jL_law.2.1 33 = .ok (.tableswitch 1075 0 31 #[143, 176, 199, 232, 275, 318, 351, 374, 397, 420, 433, 476, 519, 552, 575, 608, 631, 644, 667, 690, 713, 746, 779, 812, 875, 888, 901, 924, 957, 1006, 1019, 1052], 143) := by decide +kernel
theorem DL_law_176 : decode jL_law.2.1 176 = .ok (.aload_n 1, 1) := by decide +kernel
theorem DL_law_177 : decode jL_law.2.1 177 = .ok (.aload_n 0, 1) := by decide +kernel
theorem DL_law_178 : decode jL_law.2.1 178 = .ok (.iload_n 3, 1) := by decide +kernel
theorem DL_law_179 : decode jL_law.2.1 179 = .ok (.iconst 1, 1) := by decide +kernel
theorem DL_law_180 : decode jL_law.2.1 180 = .ok (.iadd, 1) := by decide +kernel
theorem DL_law_181 : decode jL_law.2.1 181 = .ok (.iaload, 1) := by decide +kernel
theorem DL_law_182 : decode jL_law.2.1 182 = .ok (.aload_n 0, 1) := by decide +kernel
theorem DL_law_183 : decode jL_law.2.1 183 = .ok (.iload_n 3, 1) := by decide +kernel
theorem DL_law_184 : decode jL_law.2.1 184 = .ok (.iconst 2, 1) := by decide +kernel
theorem DL_law_185 : decode jL_law.2.1 185 = .ok (.iadd, 1) := by decide +kernel
theorem DL_law_186 : decode jL_law.2.1 186 = .ok (.iaload, 1) := by decide +kernel
theorem DL_law_187 : decode jL_law.2.1 187 = .ok (.invokevirtual 13, 3) := by decide +kernel
theorem DL_law_190 : decode jL_law.2.1 190 = .ok (.aload_n 2, 1) := by decide +kernel
theorem DL_law_191 : decode jL_law.2.1 191 = .ok (.aload_n 0, 1) := by decide +kernel
theorem DL_law_192 : decode jL_law.2.1 192 = .ok (.iload_n 3, 1) := by decide +kernel
theorem DL_law_193 : decode jL_law.2.1 193 = .ok (.iconst 1, 1) := by decide +kernel
theorem DL_law_194 : decode jL_law.2.1 194 = .ok (.iadd, 1) := by decide +kernel
theorem DL_law_195 : decode jL_law.2.1 195 = .ok (.iaload, 1) := by decide +kernel
theorem DL_law_196 : decode jL_law.2.1 196 = .ok (.aload_n 0, 1) := by decide +kernel
theorem DL_law_197 : decode jL_law.2.1 197 = .ok (.iload_n 3, 1) := by decide +kernel
theorem DL_law_198 : decode jL_law.2.1 198 = .ok (.iconst 2, 1) := by decide +kernel
theorem DL_law_199 : decode jL_law.2.1 199 = .ok (.iadd, 1) := by decide +kernel
theorem DL_law_200 : decode jL_law.2.1 200 = .ok (.iaload, 1) := by decide +kernel
theorem DL_law_201 : decode jL_law.2.1 201 = .ok (.invokevirtual 17, 3) := by decide +kernel
theorem DL_law_204 : decode jL_law.2.1 204 = .ok (.if_icmp .eq 904, 3) := by decide +kernel
theorem DL_law_207 : decode jL_law.2.1 207 = .ok (.iconst 0, 1) := by decide +kernel
theorem DL_law_208 : decode jL_law.2.1 208 = .ok (.ireturn, 1) := by decide +kernel
theorem DL_law_209 : decode jL_law.2.1 209 = .ok (.aload_n 1, 1) := by decide +kernel
theorem DL_law_210 : decode jL_law.2.1 210 = .ok (.aload_n 0, 1) := by decide +kernel
theorem DL_law_211 : decode jL_law.2.1 211 = .ok (.iload_n 3, 1) := by decide +kernel
theorem DL_law_212 : decode jL_law.2.1 212 = .ok (.iconst 1, 1) := by decide +kernel
theorem DL_law_213 : decode jL_law.2.1 213 = .ok (.iadd, 1) := by decide +kernel
theorem DL_law_214 : decode jL_law.2.1 214 = .ok (.iaload, 1) := by decide +kernel
theorem DL_law_215 : decode jL_law.2.1 215 = .ok (.invokevirtual 18, 3) := by decide +kernel
theorem DL_law_218 : decode jL_law.2.1 218 = .ok (.aload_n 2, 1) := by decide +kernel
theorem DL_law_219 : decode jL_law.2.1 219 = .ok (.aload_n 0, 1) := by decide +kernel
theorem DL_law_220 : decode jL_law.2.1 220 = .ok (.iload_n 3, 1) := by decide +kernel
theorem DL_law_221 : decode jL_law.2.1 221 = .ok (.iconst 1, 1) := by decide +kernel
theorem DL_law_222 : decode jL_law.2.1 222 = .ok (.iadd, 1) := by decide +kernel
theorem DL_law_223 : decode jL_law.2.1 223 = .ok (.iaload, 1) := by decide +kernel
theorem DL_law_224 : decode jL_law.2.1 224 = .ok (.invokevirtual 22, 3) := by decide +kernel
theorem DL_law_227 : decode jL_law.2.1 227 = .ok (.if_icmp .eq 881, 3) := by decide +kernel
theorem DL_law_230 : decode jL_law.2.1 230 = .ok (.iconst 0, 1) := by decide +kernel
theorem DL_law_231 : decode jL_law.2.1 231 = .ok (.ireturn, 1) := by decide +kernel
theorem DL_law_232 : decode jL_law.2.1 232 = .ok (.aload_n 1, 1) := by decide +kernel
theorem DL_law_233 : decode jL_law.2.1 233 = .ok (.aload_n 0, 1) := by decide +kernel
theorem DL_law_234 : decode jL_law.2.1 234 = .ok (.iload_n 3, 1) := by decide +kernel
theorem DL_law_235 : decode jL_law.2.1 235 = .ok (.iconst 1, 1) := by decide +kernel
theorem DL_law_236 : decode jL_law.2.1 236 = .ok (.iadd, 1) := by decide +kernel
theorem DL_law_237 : decode jL_law.2.1 237 = .ok (.iaload, 1) := by decide +kernel
theorem DL_law_238 : decode jL_law.2.1 238 = .ok (.aload_n 0, 1) := by decide +kernel
theorem DL_law_239 : decode jL_law.2.1 239 = .ok (.iload_n 3, 1) := by decide +kernel
theorem DL_law_240 : decode jL_law.2.1 240 = .ok (.iconst 2, 1) := by decide +kernel
theorem DL_law_241 : decode jL_law.2.1 241 = .ok (.iadd, 1) := by decide +kernel
theorem DL_law_242 : decode jL_law.2.1 242 = .ok (.iaload, 1) := by decide +kernel
theorem DL_law_243 : decode jL_law.2.1 243 = .ok (.invokevirtual 23, 3) := by decide +kernel
theorem DL_law_246 : decode jL_law.2.1 246 = .ok (.aload_n 2, 1) := by decide +kernel
theorem DL_law_247 : decode jL_law.2.1 247 = .ok (.aload_n 0, 1) := by decide +kernel
theorem DL_law_248 : decode jL_law.2.1 248 = .ok (.iload_n 3, 1) := by decide +kernel
theorem DL_law_249 : decode jL_law.2.1 249 = .ok (.iconst 1, 1) := by decide +kernel
theorem DL_law_250 : decode jL_law.2.1 250 = .ok (.iadd, 1) := by decide +kernel
theorem DL_law_251 : decode jL_law.2.1 251 = .ok (.iaload, 1) := by decide +kernel
theorem DL_law_252 : decode jL_law.2.1 252 = .ok (.aload_n 0, 1) := by decide +kernel
theorem DL_law_253 : decode jL_law.2.1 253 = .ok (.iload_n 3, 1) := by decide +kernel
theorem DL_law_254 : decode jL_law.2.1 254 = .ok (.iconst 2, 1) := by decide +kernel
theorem DL_law_255 : decode jL_law.2.1 255 = .ok (.iadd, 1) := by decide +kernel
theorem DL_law_256 : decode jL_law.2.1 256 = .ok (.iaload, 1) := by decide +kernel
theorem DL_law_257 : decode jL_law.2.1 257 = .ok (.invokevirtual 26, 3) := by decide +kernel
theorem DL_law_260 : decode jL_law.2.1 260 = .ok (.if_icmp .eq 848, 3) := by decide +kernel
theorem DL_law_263 : decode jL_law.2.1 263 = .ok (.iconst 0, 1) := by decide +kernel
theorem DL_law_264 : decode jL_law.2.1 264 = .ok (.ireturn, 1) := by decide +kernel
theorem DL_law_265 : decode jL_law.2.1 265 = .ok (.aload_n 1, 1) := by decide +kernel
theorem DL_law_266 : decode jL_law.2.1 266 = .ok (.aload_n 0, 1) := by decide +kernel
theorem DL_law_267 : decode jL_law.2.1 267 = .ok (.iload_n 3, 1) := by decide +kernel
theorem DL_law_268 : decode jL_law.2.1 268 = .ok (.iconst 1, 1) := by decide +kernel
theorem DL_law_269 : decode jL_law.2.1 269 = .ok (.iadd, 1) := by decide +kernel
theorem DL_law_270 : decode jL_law.2.1 270 = .ok (.iaload, 1) := by decide +kernel
theorem DL_law_271 : decode jL_law.2.1 271 = .ok (.aload_n 0, 1) := by decide +kernel
theorem DL_law_272 : decode jL_law.2.1 272 = .ok (.iload_n 3, 1) := by decide +kernel
theorem DL_law_273 : decode jL_law.2.1 273 = .ok (.iconst 2, 1) := by decide +kernel
theorem DL_law_274 : decode jL_law.2.1 274 = .ok (.iadd, 1) := by decide +kernel
theorem DL_law_275 : decode jL_law.2.1 275 = .ok (.iaload, 1) := by decide +kernel
theorem DL_law_276 : decode jL_law.2.1 276 = .ok (.aload_n 0, 1) := by decide +kernel
theorem DL_law_277 : decode jL_law.2.1 277 = .ok (.iload_n 3, 1) := by decide +kernel
theorem DL_law_278 : decode jL_law.2.1 278 = .ok (.iconst 3, 1) := by decide +kernel
theorem DL_law_279 : decode jL_law.2.1 279 = .ok (.iadd, 1) := by decide +kernel
theorem DL_law_280 : decode jL_law.2.1 280 = .ok (.iaload, 1) := by decide +kernel
theorem DL_law_281 : decode jL_law.2.1 281 = .ok (.invokevirtual 27, 3) := by decide +kernel
theorem DL_law_284 : decode jL_law.2.1 284 = .ok (.aload_n 2, 1) := by decide +kernel
theorem DL_law_285 : decode jL_law.2.1 285 = .ok (.aload_n 0, 1) := by decide +kernel
theorem DL_law_286 : decode jL_law.2.1 286 = .ok (.iload_n 3, 1) := by decide +kernel
theorem DL_law_287 : decode jL_law.2.1 287 = .ok (.iconst 1, 1) := by decide +kernel
theorem DL_law_288 : decode jL_law.2.1 288 = .ok (.iadd, 1) := by decide +kernel
theorem DL_law_289 : decode jL_law.2.1 289 = .ok (.iaload, 1) := by decide +kernel
theorem DL_law_290 : decode jL_law.2.1 290 = .ok (.aload_n 0, 1) := by decide +kernel
theorem DL_law_291 : decode jL_law.2.1 291 = .ok (.iload_n 3, 1) := by decide +kernel
theorem DL_law_292 : decode jL_law.2.1 292 = .ok (.iconst 2, 1) := by decide +kernel
theorem DL_law_293 : decode jL_law.2.1 293 = .ok (.iadd, 1) := by decide +kernel
theorem DL_law_294 : decode jL_law.2.1 294 = .ok (.iaload, 1) := by decide +kernel
theorem DL_law_295 : decode jL_law.2.1 295 = .ok (.aload_n 0, 1) := by decide +kernel
theorem DL_law_296 : decode jL_law.2.1 296 = .ok (.iload_n 3, 1) := by decide +kernel
theorem DL_law_297 : decode jL_law.2.1 297 = .ok (.iconst 3, 1) := by decide +kernel
theorem DL_law_298 : decode jL_law.2.1 298 = .ok (.iadd, 1) := by decide +kernel
theorem DL_law_299 : decode jL_law.2.1 299 = .ok (.iaload, 1) := by decide +kernel
theorem DL_law_300 : decode jL_law.2.1 300 = .ok (.invokevirtual 31, 3) := by decide +kernel
theorem DL_law_303 : decode jL_law.2.1 303 = .ok (.if_icmp .eq 805, 3) := by decide +kernel
theorem DL_law_306 : decode jL_law.2.1 306 = .ok (.iconst 0, 1) := by decide +kernel
theorem DL_law_307 : decode jL_law.2.1 307 = .ok (.ireturn, 1) := by decide +kernel
theorem DL_law_308 : decode jL_law.2.1 308 = .ok (.aload_n 1, 1) := by decide +kernel
theorem DL_law_309 : decode jL_law.2.1 309 = .ok (.aload_n 0, 1) := by decide +kernel
theorem DL_law_310 : decode jL_law.2.1 310 = .ok (.iload_n 3, 1) := by decide +kernel
theorem DL_law_311 : decode jL_law.2.1 311 = .ok (.iconst 1, 1) := by decide +kernel
theorem DL_law_312 : decode jL_law.2.1 312 = .ok (.iadd, 1) := by decide +kernel
theorem DL_law_313 : decode jL_law.2.1 313 = .ok (.iaload, 1) := by decide +kernel
theorem DL_law_314 : decode jL_law.2.1 314 = .ok (.aload_n 0, 1) := by decide +kernel
theorem DL_law_315 : decode jL_law.2.1 315 = .ok (.iload_n 3, 1) := by decide +kernel
theorem DL_law_316 : decode jL_law.2.1 316 = .ok (.iconst 2, 1) := by decide +kernel
theorem DL_law_317 : decode jL_law.2.1 317 = .ok (.iadd, 1) := by decide +kernel
theorem DL_law_318 : decode jL_law.2.1 318 = .ok (.iaload, 1) := by decide +kernel
theorem DL_law_319 : decode jL_law.2.1 319 = .ok (.aload_n 0, 1) := by decide +kernel
theorem DL_law_320 : decode jL_law.2.1 320 = .ok (.iload_n 3, 1) := by decide +kernel
theorem DL_law_321 : decode jL_law.2.1 321 = .ok (.iconst 3, 1) := by decide +kernel
theorem DL_law_322 : decode jL_law.2.1 322 = .ok (.iadd, 1) := by decide +kernel
theorem DL_law_323 : decode jL_law.2.1 323 = .ok (.iaload, 1) := by decide +kernel
theorem DL_law_324 : decode jL_law.2.1 324 = .ok (.invokevirtual 32, 3) := by decide +kernel
theorem DL_law_327 : decode jL_law.2.1 327 = .ok (.aload_n 2, 1) := by decide +kernel
theorem DL_law_328 : decode jL_law.2.1 328 = .ok (.aload_n 0, 1) := by decide +kernel
theorem DL_law_329 : decode jL_law.2.1 329 = .ok (.iload_n 3, 1) := by decide +kernel
theorem DL_law_330 : decode jL_law.2.1 330 = .ok (.iconst 1, 1) := by decide +kernel
theorem DL_law_331 : decode jL_law.2.1 331 = .ok (.iadd, 1) := by decide +kernel
theorem DL_law_332 : decode jL_law.2.1 332 = .ok (.iaload, 1) := by decide +kernel
theorem DL_law_333 : decode jL_law.2.1 333 = .ok (.aload_n 0, 1) := by decide +kernel
theorem DL_law_334 : decode jL_law.2.1 334 = .ok (.iload_n 3, 1) := by decide +kernel
theorem DL_law_335 : decode jL_law.2.1 335 = .ok (.iconst 2, 1) := by decide +kernel
theorem DL_law_336 : decode jL_law.2.1 336 = .ok (.iadd, 1) := by decide +kernel
theorem DL_law_337 : decode jL_law.2.1 337 = .ok (.iaload, 1) := by decide +kernel
theorem DL_law_338 : decode jL_law.2.1 338 = .ok (.aload_n 0, 1) := by decide +kernel
theorem DL_law_339 : decode jL_law.2.1 339 = .ok (.iload_n 3, 1) := by decide +kernel
theorem DL_law_340 : decode jL_law.2.1 340 = .ok (.iconst 3, 1) := by decide +kernel
theorem DL_law_341 : decode jL_law.2.1 341 = .ok (.iadd, 1) := by decide +kernel
theorem DL_law_342 : decode jL_law.2.1 342 = .ok (.iaload, 1) := by decide +kernel
theorem DL_law_343 : decode jL_law.2.1 343 = .ok (.invokevirtual 35, 3) := by decide +kernel
theorem DL_law_346 : decode jL_law.2.1 346 = .ok (.if_icmp .eq 762, 3) := by decide +kernel
theorem DL_law_349 : decode jL_law.2.1 349 = .ok (.iconst 0, 1) := by decide +kernel
theorem DL_law_350 : decode jL_law.2.1 350 = .ok (.ireturn, 1) := by decide +kernel
theorem DL_law_351 : decode jL_law.2.1 351 = .ok (.aload_n 1, 1) := by decide +kernel
theorem DL_law_352 : decode jL_law.2.1 352 = .ok (.aload_n 0, 1) := by decide +kernel
theorem DL_law_353 : decode jL_law.2.1 353 = .ok (.iload_n 3, 1) := by decide +kernel
theorem DL_law_354 : decode jL_law.2.1 354 = .ok (.iconst 1, 1) := by decide +kernel
theorem DL_law_355 : decode jL_law.2.1 355 = .ok (.iadd, 1) := by decide +kernel
theorem DL_law_356 : decode jL_law.2.1 356 = .ok (.iaload, 1) := by decide +kernel
theorem DL_law_357 : decode jL_law.2.1 357 = .ok (.aload_n 0, 1) := by decide +kernel
theorem DL_law_358 : decode jL_law.2.1 358 = .ok (.iload_n 3, 1) := by decide +kernel
theorem DL_law_359 : decode jL_law.2.1 359 = .ok (.iconst 2, 1) := by decide +kernel
theorem DL_law_360 : decode jL_law.2.1 360 = .ok (.iadd, 1) := by decide +kernel
theorem DL_law_361 : decode jL_law.2.1 361 = .ok (.iaload, 1) := by decide +kernel
theorem DL_law_362 : decode jL_law.2.1 362 = .ok (.invokevirtual 36, 3) := by decide +kernel
theorem DL_law_365 : decode jL_law.2.1 365 = .ok (.aload_n 2, 1) := by decide +kernel
theorem DL_law_366 : decode jL_law.2.1 366 = .ok (.aload_n 0, 1) := by decide +kernel
theorem DL_law_367 : decode jL_law.2.1 367 = .ok (.iload_n 3, 1) := by decide +kernel
theorem DL_law_368 : decode jL_law.2.1 368 = .ok (.iconst 1, 1) := by decide +kernel
theorem DL_law_369 : decode jL_law.2.1 369 = .ok (.iadd, 1) := by decide +kernel
theorem DL_law_370 : decode jL_law.2.1 370 = .ok (.iaload, 1) := by decide +kernel
theorem DL_law_371 : decode jL_law.2.1 371 = .ok (.aload_n 0, 1) := by decide +kernel
theorem DL_law_372 : decode jL_law.2.1 372 = .ok (.iload_n 3, 1) := by decide +kernel
theorem DL_law_373 : decode jL_law.2.1 373 = .ok (.iconst 2, 1) := by decide +kernel
theorem DL_law_374 : decode jL_law.2.1 374 = .ok (.iadd, 1) := by decide +kernel
theorem DL_law_375 : decode jL_law.2.1 375 = .ok (.iaload, 1) := by decide +kernel
theorem DL_law_376 : decode jL_law.2.1 376 = .ok (.invokevirtual 39, 3) := by decide +kernel
theorem DL_law_379 : decode jL_law.2.1 379 = .ok (.if_icmp .eq 729, 3) := by decide +kernel
theorem DL_law_382 : decode jL_law.2.1 382 = .ok (.iconst 0, 1) := by decide +kernel
theorem DL_law_383 : decode jL_law.2.1 383 = .ok (.ireturn, 1) := by decide +kernel
theorem DL_law_384 : decode jL_law.2.1 384 = .ok (.aload_n 1, 1) := by decide +kernel
theorem DL_law_385 : decode jL_law.2.1 385 = .ok (.aload_n 0, 1) := by decide +kernel
theorem DL_law_386 : decode jL_law.2.1 386 = .ok (.iload_n 3, 1) := by decide +kernel
theorem DL_law_387 : decode jL_law.2.1 387 = .ok (.iconst 1, 1) := by decide +kernel
theorem DL_law_388 : decode jL_law.2.1 388 = .ok (.iadd, 1) := by decide +kernel
theorem DL_law_389 : decode jL_law.2.1 389 = .ok (.iaload, 1) := by decide +kernel
theorem DL_law_390 : decode jL_law.2.1 390 = .ok (.invokevirtual 40, 3) := by decide +kernel
theorem DL_law_393 : decode jL_law.2.1 393 = .ok (.aload_n 2, 1) := by decide +kernel
theorem DL_law_394 : decode jL_law.2.1 394 = .ok (.aload_n 0, 1) := by decide +kernel
theorem DL_law_395 : decode jL_law.2.1 395 = .ok (.iload_n 3, 1) := by decide +kernel
theorem DL_law_396 : decode jL_law.2.1 396 = .ok (.iconst 1, 1) := by decide +kernel
theorem DL_law_397 : decode jL_law.2.1 397 = .ok (.iadd, 1) := by decide +kernel
theorem DL_law_398 : decode jL_law.2.1 398 = .ok (.iaload, 1) := by decide +kernel
theorem DL_law_399 : decode jL_law.2.1 399 = .ok (.invokevirtual 43, 3) := by decide +kernel
theorem DL_law_402 : decode jL_law.2.1 402 = .ok (.if_icmp .eq 706, 3) := by decide +kernel
theorem DL_law_405 : decode jL_law.2.1 405 = .ok (.iconst 0, 1) := by decide +kernel
theorem DL_law_406 : decode jL_law.2.1 406 = .ok (.ireturn, 1) := by decide +kernel
theorem DL_law_407 : decode jL_law.2.1 407 = .ok (.aload_n 1, 1) := by decide +kernel
theorem DL_law_408 : decode jL_law.2.1 408 = .ok (.aload_n 0, 1) := by decide +kernel
theorem DL_law_409 : decode jL_law.2.1 409 = .ok (.iload_n 3, 1) := by decide +kernel
theorem DL_law_410 : decode jL_law.2.1 410 = .ok (.iconst 1, 1) := by decide +kernel
theorem DL_law_411 : decode jL_law.2.1 411 = .ok (.iadd, 1) := by decide +kernel
theorem DL_law_412 : decode jL_law.2.1 412 = .ok (.iaload, 1) := by decide +kernel
theorem DL_law_413 : decode jL_law.2.1 413 = .ok (.invokevirtual 44, 3) := by decide +kernel
theorem DL_law_416 : decode jL_law.2.1 416 = .ok (.aload_n 2, 1) := by decide +kernel
theorem DL_law_417 : decode jL_law.2.1 417 = .ok (.aload_n 0, 1) := by decide +kernel
theorem DL_law_418 : decode jL_law.2.1 418 = .ok (.iload_n 3, 1) := by decide +kernel
theorem DL_law_419 : decode jL_law.2.1 419 = .ok (.iconst 1, 1) := by decide +kernel
theorem DL_law_420 : decode jL_law.2.1 420 = .ok (.iadd, 1) := by decide +kernel
theorem DL_law_421 : decode jL_law.2.1 421 = .ok (.iaload, 1) := by decide +kernel
theorem DL_law_422 : decode jL_law.2.1 422 = .ok (.invokevirtual 47, 3) := by decide +kernel
theorem DL_law_425 : decode jL_law.2.1 425 = .ok (.if_icmp .eq 683, 3) := by decide +kernel
theorem DL_law_428 : decode jL_law.2.1 428 = .ok (.iconst 0, 1) := by decide +kernel
theorem DL_law_429 : decode jL_law.2.1 429 = .ok (.ireturn, 1) := by decide +kernel
theorem DL_law_430 : decode jL_law.2.1 430 = .ok (.aload_n 1, 1) := by decide +kernel
theorem DL_law_431 : decode jL_law.2.1 431 = .ok (.aload_n 0, 1) := by decide +kernel
theorem DL_law_432 : decode jL_law.2.1 432 = .ok (.iload_n 3, 1) := by decide +kernel
theorem DL_law_433 : decode jL_law.2.1 433 = .ok (.iconst 1, 1) := by decide +kernel
theorem DL_law_434 : decode jL_law.2.1 434 = .ok (.iadd, 1) := by decide +kernel
theorem DL_law_435 : decode jL_law.2.1 435 = .ok (.iaload, 1) := by decide +kernel
theorem DL_law_436 : decode jL_law.2.1 436 = .ok (.invokevirtual 48, 3) := by decide +kernel
theorem DL_law_439 : decode jL_law.2.1 439 = .ok (.aload_n 2, 1) := by decide +kernel
theorem DL_law_440 : decode jL_law.2.1 440 = .ok (.aload_n 0, 1) := by decide +kernel
theorem DL_law_441 : decode jL_law.2.1 441 = .ok (.iload_n 3, 1) := by decide +kernel
theorem DL_law_442 : decode jL_law.2.1 442 = .ok (.iconst 1, 1) := by decide +kernel
theorem DL_law_443 : decode jL_law.2.1 443 = .ok (.iadd, 1) := by decide +kernel
theorem DL_law_444 : decode jL_law.2.1 444 = .ok (.iaload, 1) := by decide +kernel
theorem DL_law_445 : decode jL_law.2.1 445 = .ok (.invokevirtual 51, 3) := by decide +kernel
theorem DL_law_448 : decode jL_law.2.1 448 = .ok (.if_icmp .eq 660, 3) := by decide +kernel
theorem DL_law_451 : decode jL_law.2.1 451 = .ok (.iconst 0, 1) := by decide +kernel
theorem DL_law_452 : decode jL_law.2.1 452 = .ok (.ireturn, 1) := by decide +kernel
theorem DL_law_453 : decode jL_law.2.1 453 = .ok (.aload_n 1, 1) := by decide +kernel
theorem DL_law_454 : decode jL_law.2.1 454 = .ok (.invokevirtual 52, 3) := by decide +kernel
theorem DL_law_457 : decode jL_law.2.1 457 = .ok (.aload_n 2, 1) := by decide +kernel
theorem DL_law_458 : decode jL_law.2.1 458 = .ok (.invokevirtual 56, 3) := by decide +kernel
theorem DL_law_461 : decode jL_law.2.1 461 = .ok (.if_icmp .eq 647, 3) := by decide +kernel
theorem DL_law_464 : decode jL_law.2.1 464 = .ok (.iconst 0, 1) := by decide +kernel
theorem DL_law_465 : decode jL_law.2.1 465 = .ok (.ireturn, 1) := by decide +kernel
theorem DL_law_466 : decode jL_law.2.1 466 = .ok (.aload_n 1, 1) := by decide +kernel
theorem DL_law_467 : decode jL_law.2.1 467 = .ok (.aload_n 0, 1) := by decide +kernel
theorem DL_law_468 : decode jL_law.2.1 468 = .ok (.iload_n 3, 1) := by decide +kernel
theorem DL_law_469 : decode jL_law.2.1 469 = .ok (.iconst 1, 1) := by decide +kernel
theorem DL_law_470 : decode jL_law.2.1 470 = .ok (.iadd, 1) := by decide +kernel
theorem DL_law_471 : decode jL_law.2.1 471 = .ok (.iaload, 1) := by decide +kernel
theorem DL_law_472 : decode jL_law.2.1 472 = .ok (.aload_n 0, 1) := by decide +kernel
theorem DL_law_473 : decode jL_law.2.1 473 = .ok (.iload_n 3, 1) := by decide +kernel
theorem DL_law_474 : decode jL_law.2.1 474 = .ok (.iconst 2, 1) := by decide +kernel
theorem DL_law_475 : decode jL_law.2.1 475 = .ok (.iadd, 1) := by decide +kernel
theorem DL_law_476 : decode jL_law.2.1 476 = .ok (.iaload, 1) := by decide +kernel
theorem DL_law_477 : decode jL_law.2.1 477 = .ok (.aload_n 0, 1) := by decide +kernel
theorem DL_law_478 : decode jL_law.2.1 478 = .ok (.iload_n 3, 1) := by decide +kernel
theorem DL_law_479 : decode jL_law.2.1 479 = .ok (.iconst 3, 1) := by decide +kernel
theorem DL_law_480 : decode jL_law.2.1 480 = .ok (.iadd, 1) := by decide +kernel
theorem DL_law_481 : decode jL_law.2.1 481 = .ok (.iaload, 1) := by decide +kernel
theorem DL_law_482 : decode jL_law.2.1 482 = .ok (.invokevirtual 57, 3) := by decide +kernel
theorem DL_law_485 : decode jL_law.2.1 485 = .ok (.aload_n 2, 1) := by decide +kernel
theorem DL_law_486 : decode jL_law.2.1 486 = .ok (.aload_n 0, 1) := by decide +kernel
theorem DL_law_487 : decode jL_law.2.1 487 = .ok (.iload_n 3, 1) := by decide +kernel
theorem DL_law_488 : decode jL_law.2.1 488 = .ok (.iconst 1, 1) := by decide +kernel
theorem DL_law_489 : decode jL_law.2.1 489 = .ok (.iadd, 1) := by decide +kernel
theorem DL_law_490 : decode jL_law.2.1 490 = .ok (.iaload, 1) := by decide +kernel
theorem DL_law_491 : decode jL_law.2.1 491 = .ok (.aload_n 0, 1) := by decide +kernel
theorem DL_law_492 : decode jL_law.2.1 492 = .ok (.iload_n 3, 1) := by decide +kernel
theorem DL_law_493 : decode jL_law.2.1 493 = .ok (.iconst 2, 1) := by decide +kernel
theorem DL_law_494 : decode jL_law.2.1 494 = .ok (.iadd, 1) := by decide +kernel
theorem DL_law_495 : decode jL_law.2.1 495 = .ok (.iaload, 1) := by decide +kernel
theorem DL_law_496 : decode jL_law.2.1 496 = .ok (.aload_n 0, 1) := by decide +kernel
theorem DL_law_497 : decode jL_law.2.1 497 = .ok (.iload_n 3, 1) := by decide +kernel
theorem DL_law_498 : decode jL_law.2.1 498 = .ok (.iconst 3, 1) := by decide +kernel
theorem DL_law_499 : decode jL_law.2.1 499 = .ok (.iadd, 1) := by decide +kernel
theorem DL_law_500 : decode jL_law.2.1 500 = .ok (.iaload, 1) := by decide +kernel
theorem DL_law_501 : decode jL_law.2.1 501 = .ok (.invokevirtual 60, 3) := by decide +kernel
theorem DL_law_504 : decode jL_law.2.1 504 = .ok (.if_icmp .eq 604, 3) := by decide +kernel
theorem DL_law_507 : decode jL_law.2.1 507 = .ok (.iconst 0, 1) := by decide +kernel
theorem DL_law_508 : decode jL_law.2.1 508 = .ok (.ireturn, 1) := by decide +kernel
theorem DL_law_509 : decode jL_law.2.1 509 = .ok (.aload_n 1, 1) := by decide +kernel
theorem DL_law_510 : decode jL_law.2.1 510 = .ok (.aload_n 0, 1) := by decide +kernel
theorem DL_law_511 : decode jL_law.2.1 511 = .ok (.iload_n 3, 1) := by decide +kernel
theorem DL_law_512 : decode jL_law.2.1 512 = .ok (.iconst 1, 1) := by decide +kernel
theorem DL_law_513 : decode jL_law.2.1 513 = .ok (.iadd, 1) := by decide +kernel
theorem DL_law_514 : decode jL_law.2.1 514 = .ok (.iaload, 1) := by decide +kernel
theorem DL_law_515 : decode jL_law.2.1 515 = .ok (.aload_n 0, 1) := by decide +kernel
theorem DL_law_516 : decode jL_law.2.1 516 = .ok (.iload_n 3, 1) := by decide +kernel
theorem DL_law_517 : decode jL_law.2.1 517 = .ok (.iconst 2, 1) := by decide +kernel
theorem DL_law_518 : decode jL_law.2.1 518 = .ok (.iadd, 1) := by decide +kernel
theorem DL_law_519 : decode jL_law.2.1 519 = .ok (.iaload, 1) := by decide +kernel
theorem DL_law_520 : decode jL_law.2.1 520 = .ok (.aload_n 0, 1) := by decide +kernel
theorem DL_law_521 : decode jL_law.2.1 521 = .ok (.iload_n 3, 1) := by decide +kernel
theorem DL_law_522 : decode jL_law.2.1 522 = .ok (.iconst 3, 1) := by decide +kernel
theorem DL_law_523 : decode jL_law.2.1 523 = .ok (.iadd, 1) := by decide +kernel
theorem DL_law_524 : decode jL_law.2.1 524 = .ok (.iaload, 1) := by decide +kernel
theorem DL_law_525 : decode jL_law.2.1 525 = .ok (.invokevirtual 61, 3) := by decide +kernel
theorem DL_law_528 : decode jL_law.2.1 528 = .ok (.aload_n 2, 1) := by decide +kernel
theorem DL_law_529 : decode jL_law.2.1 529 = .ok (.aload_n 0, 1) := by decide +kernel
theorem DL_law_530 : decode jL_law.2.1 530 = .ok (.iload_n 3, 1) := by decide +kernel
theorem DL_law_531 : decode jL_law.2.1 531 = .ok (.iconst 1, 1) := by decide +kernel
theorem DL_law_532 : decode jL_law.2.1 532 = .ok (.iadd, 1) := by decide +kernel
theorem DL_law_533 : decode jL_law.2.1 533 = .ok (.iaload, 1) := by decide +kernel
theorem DL_law_534 : decode jL_law.2.1 534 = .ok (.aload_n 0, 1) := by decide +kernel
theorem DL_law_535 : decode jL_law.2.1 535 = .ok (.iload_n 3, 1) := by decide +kernel
theorem DL_law_536 : decode jL_law.2.1 536 = .ok (.iconst 2, 1) := by decide +kernel
theorem DL_law_537 : decode jL_law.2.1 537 = .ok (.iadd, 1) := by decide +kernel
theorem DL_law_538 : decode jL_law.2.1 538 = .ok (.iaload, 1) := by decide +kernel
theorem DL_law_539 : decode jL_law.2.1 539 = .ok (.aload_n 0, 1) := by decide +kernel
theorem DL_law_540 : decode jL_law.2.1 540 = .ok (.iload_n 3, 1) := by decide +kernel
theorem DL_law_541 : decode jL_law.2.1 541 = .ok (.iconst 3, 1) := by decide +kernel
theorem DL_law_542 : decode jL_law.2.1 542 = .ok (.iadd, 1) := by decide +kernel
theorem DL_law_543 : decode jL_law.2.1 543 = .ok (.iaload, 1) := by decide +kernel
theorem DL_law_544 : decode jL_law.2.1 544 = .ok (.invokevirtual 64, 3) := by decide +kernel
theorem DL_law_547 : decode jL_law.2.1 547 = .ok (.if_icmp .eq 561, 3) := by decide +kernel
theorem DL_law_550 : decode jL_law.2.1 550 = .ok (.iconst 0, 1) := by decide +kernel
theorem DL_law_551 : decode jL_law.2.1 551 = .ok (.ireturn, 1) := by decide +kernel
theorem DL_law_552 : decode jL_law.2.1 552 = .ok (.aload_n 1, 1) := by decide +kernel
theorem DL_law_553 : decode jL_law.2.1 553 = .ok (.aload_n 0, 1) := by decide +kernel
theorem DL_law_554 : decode jL_law.2.1 554 = .ok (.iload_n 3, 1) := by decide +kernel
theorem DL_law_555 : decode jL_law.2.1 555 = .ok (.iconst 1, 1) := by decide +kernel
theorem DL_law_556 : decode jL_law.2.1 556 = .ok (.iadd, 1) := by decide +kernel
theorem DL_law_557 : decode jL_law.2.1 557 = .ok (.iaload, 1) := by decide +kernel
theorem DL_law_558 : decode jL_law.2.1 558 = .ok (.aload_n 0, 1) := by decide +kernel
theorem DL_law_559 : decode jL_law.2.1 559 = .ok (.iload_n 3, 1) := by decide +kernel
theorem DL_law_560 : decode jL_law.2.1 560 = .ok (.iconst 2, 1) := by decide +kernel
theorem DL_law_561 : decode jL_law.2.1 561 = .ok (.iadd, 1) := by decide +kernel
theorem DL_law_562 : decode jL_law.2.1 562 = .ok (.iaload, 1) := by decide +kernel
theorem DL_law_563 : decode jL_law.2.1 563 = .ok (.invokevirtual 65, 3) := by decide +kernel
theorem DL_law_566 : decode jL_law.2.1 566 = .ok (.aload_n 2, 1) := by decide +kernel
theorem DL_law_567 : decode jL_law.2.1 567 = .ok (.aload_n 0, 1) := by decide +kernel
theorem DL_law_568 : decode jL_law.2.1 568 = .ok (.iload_n 3, 1) := by decide +kernel
theorem DL_law_569 : decode jL_law.2.1 569 = .ok (.iconst 1, 1) := by decide +kernel
theorem DL_law_570 : decode jL_law.2.1 570 = .ok (.iadd, 1) := by decide +kernel
theorem DL_law_571 : decode jL_law.2.1 571 = .ok (.iaload, 1) := by decide +kernel
theorem DL_law_572 : decode jL_law.2.1 572 = .ok (.aload_n 0, 1) := by decide +kernel
theorem DL_law_573 : decode jL_law.2.1 573 = .ok (.iload_n 3, 1) := by decide +kernel
theorem DL_law_574 : decode jL_law.2.1 574 = .ok (.iconst 2, 1) := by decide +kernel
theorem DL_law_575 : decode jL_law.2.1 575 = .ok (.iadd, 1) := by decide +kernel
theorem DL_law_576 : decode jL_law.2.1 576 = .ok (.iaload, 1) := by decide +kernel
theorem DL_law_577 : decode jL_law.2.1 577 = .ok (.invokevirtual 68, 3) := by decide +kernel
theorem DL_law_580 : decode jL_law.2.1 580 = .ok (.if_icmp .eq 528, 3) := by decide +kernel
theorem DL_law_583 : decode jL_law.2.1 583 = .ok (.iconst 0, 1) := by decide +kernel
theorem DL_law_584 : decode jL_law.2.1 584 = .ok (.ireturn, 1) := by decide +kernel
theorem DL_law_585 : decode jL_law.2.1 585 = .ok (.aload_n 1, 1) := by decide +kernel
theorem DL_law_586 : decode jL_law.2.1 586 = .ok (.aload_n 0, 1) := by decide +kernel
theorem DL_law_587 : decode jL_law.2.1 587 = .ok (.iload_n 3, 1) := by decide +kernel
theorem DL_law_588 : decode jL_law.2.1 588 = .ok (.iconst 1, 1) := by decide +kernel
theorem DL_law_589 : decode jL_law.2.1 589 = .ok (.iadd, 1) := by decide +kernel
theorem DL_law_590 : decode jL_law.2.1 590 = .ok (.iaload, 1) := by decide +kernel
theorem DL_law_591 : decode jL_law.2.1 591 = .ok (.invokevirtual 69, 3) := by decide +kernel
theorem DL_law_594 : decode jL_law.2.1 594 = .ok (.aload_n 2, 1) := by decide +kernel
theorem DL_law_595 : decode jL_law.2.1 595 = .ok (.aload_n 0, 1) := by decide +kernel
theorem DL_law_596 : decode jL_law.2.1 596 = .ok (.iload_n 3, 1) := by decide +kernel
theorem DL_law_597 : decode jL_law.2.1 597 = .ok (.iconst 1, 1) := by decide +kernel
theorem DL_law_598 : decode jL_law.2.1 598 = .ok (.iadd, 1) := by decide +kernel
theorem DL_law_599 : decode jL_law.2.1 599 = .ok (.iaload, 1) := by decide +kernel
theorem DL_law_600 : decode jL_law.2.1 600 = .ok (.invokevirtual 72, 3) := by decide +kernel
theorem DL_law_603 : decode jL_law.2.1 603 = .ok (.if_icmp .eq 505, 3) := by decide +kernel
theorem DL_law_606 : decode jL_law.2.1 606 = .ok (.iconst 0, 1) := by decide +kernel
theorem DL_law_607 : decode jL_law.2.1 607 = .ok (.ireturn, 1) := by decide +kernel
theorem DL_law_608 : decode jL_law.2.1 608 = .ok (.aload_n 1, 1) := by decide +kernel
theorem DL_law_609 : decode jL_law.2.1 609 = .ok (.aload_n 0, 1) := by decide +kernel
theorem DL_law_610 : decode jL_law.2.1 610 = .ok (.iload_n 3, 1) := by decide +kernel
theorem DL_law_611 : decode jL_law.2.1 611 = .ok (.iconst 1, 1) := by decide +kernel
theorem DL_law_612 : decode jL_law.2.1 612 = .ok (.iadd, 1) := by decide +kernel
theorem DL_law_613 : decode jL_law.2.1 613 = .ok (.iaload, 1) := by decide +kernel
theorem DL_law_614 : decode jL_law.2.1 614 = .ok (.aload_n 0, 1) := by decide +kernel
theorem DL_law_615 : decode jL_law.2.1 615 = .ok (.iload_n 3, 1) := by decide +kernel
theorem DL_law_616 : decode jL_law.2.1 616 = .ok (.iconst 2, 1) := by decide +kernel
theorem DL_law_617 : decode jL_law.2.1 617 = .ok (.iadd, 1) := by decide +kernel
theorem DL_law_618 : decode jL_law.2.1 618 = .ok (.iaload, 1) := by decide +kernel
theorem DL_law_619 : decode jL_law.2.1 619 = .ok (.invokevirtual 73, 3) := by decide +kernel
theorem DL_law_622 : decode jL_law.2.1 622 = .ok (.aload_n 2, 1) := by decide +kernel
theorem DL_law_623 : decode jL_law.2.1 623 = .ok (.aload_n 0, 1) := by decide +kernel
theorem DL_law_624 : decode jL_law.2.1 624 = .ok (.iload_n 3, 1) := by decide +kernel
theorem DL_law_625 : decode jL_law.2.1 625 = .ok (.iconst 1, 1) := by decide +kernel
theorem DL_law_626 : decode jL_law.2.1 626 = .ok (.iadd, 1) := by decide +kernel
theorem DL_law_627 : decode jL_law.2.1 627 = .ok (.iaload, 1) := by decide +kernel
theorem DL_law_628 : decode jL_law.2.1 628 = .ok (.aload_n 0, 1) := by decide +kernel
theorem DL_law_629 : decode jL_law.2.1 629 = .ok (.iload_n 3, 1) := by decide +kernel
theorem DL_law_630 : decode jL_law.2.1 630 = .ok (.iconst 2, 1) := by decide +kernel
theorem DL_law_631 : decode jL_law.2.1 631 = .ok (.iadd, 1) := by decide +kernel
theorem DL_law_632 : decode jL_law.2.1 632 = .ok (.iaload, 1) := by decide +kernel
theorem DL_law_633 : decode jL_law.2.1 633 = .ok (.invokevirtual 76, 3) := by decide +kernel
theorem DL_law_636 : decode jL_law.2.1 636 = .ok (.if_icmp .eq 472, 3) := by decide +kernel
theorem DL_law_639 : decode jL_law.2.1 639 = .ok (.iconst 0, 1) := by decide +kernel
theorem DL_law_640 : decode jL_law.2.1 640 = .ok (.ireturn, 1) := by decide +kernel
theorem DL_law_641 : decode jL_law.2.1 641 = .ok (.aload_n 1, 1) := by decide +kernel
theorem DL_law_642 : decode jL_law.2.1 642 = .ok (.aload_n 0, 1) := by decide +kernel
theorem DL_law_643 : decode jL_law.2.1 643 = .ok (.iload_n 3, 1) := by decide +kernel
theorem DL_law_644 : decode jL_law.2.1 644 = .ok (.iconst 1, 1) := by decide +kernel
theorem DL_law_645 : decode jL_law.2.1 645 = .ok (.iadd, 1) := by decide +kernel
theorem DL_law_646 : decode jL_law.2.1 646 = .ok (.iaload, 1) := by decide +kernel
theorem DL_law_647 : decode jL_law.2.1 647 = .ok (.invokevirtual 77, 3) := by decide +kernel
theorem DL_law_650 : decode jL_law.2.1 650 = .ok (.aload_n 2, 1) := by decide +kernel
theorem DL_law_651 : decode jL_law.2.1 651 = .ok (.aload_n 0, 1) := by decide +kernel
theorem DL_law_652 : decode jL_law.2.1 652 = .ok (.iload_n 3, 1) := by decide +kernel
theorem DL_law_653 : decode jL_law.2.1 653 = .ok (.iconst 1, 1) := by decide +kernel
theorem DL_law_654 : decode jL_law.2.1 654 = .ok (.iadd, 1) := by decide +kernel
theorem DL_law_655 : decode jL_law.2.1 655 = .ok (.iaload, 1) := by decide +kernel
theorem DL_law_656 : decode jL_law.2.1 656 = .ok (.invokevirtual 80, 3) := by decide +kernel
theorem DL_law_659 : decode jL_law.2.1 659 = .ok (.if_icmp .eq 449, 3) := by decide +kernel
theorem DL_law_662 : decode jL_law.2.1 662 = .ok (.iconst 0, 1) := by decide +kernel
theorem DL_law_663 : decode jL_law.2.1 663 = .ok (.ireturn, 1) := by decide +kernel
theorem DL_law_664 : decode jL_law.2.1 664 = .ok (.aload_n 1, 1) := by decide +kernel
theorem DL_law_665 : decode jL_law.2.1 665 = .ok (.invokevirtual 81, 3) := by decide +kernel
theorem DL_law_668 : decode jL_law.2.1 668 = .ok (.aload_n 2, 1) := by decide +kernel
theorem DL_law_669 : decode jL_law.2.1 669 = .ok (.invokevirtual 84, 3) := by decide +kernel
theorem DL_law_672 : decode jL_law.2.1 672 = .ok (.if_icmp .eq 436, 3) := by decide +kernel
theorem DL_law_675 : decode jL_law.2.1 675 = .ok (.iconst 0, 1) := by decide +kernel
theorem DL_law_676 : decode jL_law.2.1 676 = .ok (.ireturn, 1) := by decide +kernel
theorem DL_law_677 : decode jL_law.2.1 677 = .ok (.aload_n 1, 1) := by decide +kernel
theorem DL_law_678 : decode jL_law.2.1 678 = .ok (.aload_n 0, 1) := by decide +kernel
theorem DL_law_679 : decode jL_law.2.1 679 = .ok (.iload_n 3, 1) := by decide +kernel
theorem DL_law_680 : decode jL_law.2.1 680 = .ok (.iconst 1, 1) := by decide +kernel
theorem DL_law_681 : decode jL_law.2.1 681 = .ok (.iadd, 1) := by decide +kernel
theorem DL_law_682 : decode jL_law.2.1 682 = .ok (.iaload, 1) := by decide +kernel
theorem DL_law_683 : decode jL_law.2.1 683 = .ok (.invokevirtual 85, 3) := by decide +kernel
theorem DL_law_686 : decode jL_law.2.1 686 = .ok (.aload_n 2, 1) := by decide +kernel
theorem DL_law_687 : decode jL_law.2.1 687 = .ok (.aload_n 0, 1) := by decide +kernel
theorem DL_law_688 : decode jL_law.2.1 688 = .ok (.iload_n 3, 1) := by decide +kernel
theorem DL_law_689 : decode jL_law.2.1 689 = .ok (.iconst 1, 1) := by decide +kernel
theorem DL_law_690 : decode jL_law.2.1 690 = .ok (.iadd, 1) := by decide +kernel
theorem DL_law_691 : decode jL_law.2.1 691 = .ok (.iaload, 1) := by decide +kernel
theorem DL_law_692 : decode jL_law.2.1 692 = .ok (.invokevirtual 88, 3) := by decide +kernel
theorem DL_law_695 : decode jL_law.2.1 695 = .ok (.if_icmp .eq 413, 3) := by decide +kernel
theorem DL_law_698 : decode jL_law.2.1 698 = .ok (.iconst 0, 1) := by decide +kernel
theorem DL_law_699 : decode jL_law.2.1 699 = .ok (.ireturn, 1) := by decide +kernel
theorem DL_law_700 : decode jL_law.2.1 700 = .ok (.aload_n 1, 1) := by decide +kernel
theorem DL_law_701 : decode jL_law.2.1 701 = .ok (.aload_n 0, 1) := by decide +kernel
theorem DL_law_702 : decode jL_law.2.1 702 = .ok (.iload_n 3, 1) := by decide +kernel
theorem DL_law_703 : decode jL_law.2.1 703 = .ok (.iconst 1, 1) := by decide +kernel
theorem DL_law_704 : decode jL_law.2.1 704 = .ok (.iadd, 1) := by decide +kernel
theorem DL_law_705 : decode jL_law.2.1 705 = .ok (.iaload, 1) := by decide +kernel
theorem DL_law_706 : decode jL_law.2.1 706 = .ok (.invokevirtual 89, 3) := by decide +kernel
theorem DL_law_709 : decode jL_law.2.1 709 = .ok (.aload_n 2, 1) := by decide +kernel
theorem DL_law_710 : decode jL_law.2.1 710 = .ok (.aload_n 0, 1) := by decide +kernel
theorem DL_law_711 : decode jL_law.2.1 711 = .ok (.iload_n 3, 1) := by decide +kernel
theorem DL_law_712 : decode jL_law.2.1 712 = .ok (.iconst 1, 1) := by decide +kernel
theorem DL_law_713 : decode jL_law.2.1 713 = .ok (.iadd, 1) := by decide +kernel
theorem DL_law_714 : decode jL_law.2.1 714 = .ok (.iaload, 1) := by decide +kernel
theorem DL_law_715 : decode jL_law.2.1 715 = .ok (.invokevirtual 92, 3) := by decide +kernel
theorem DL_law_718 : decode jL_law.2.1 718 = .ok (.if_icmp .eq 390, 3) := by decide +kernel
theorem DL_law_721 : decode jL_law.2.1 721 = .ok (.iconst 0, 1) := by decide +kernel
theorem DL_law_722 : decode jL_law.2.1 722 = .ok (.ireturn, 1) := by decide +kernel
theorem DL_law_723 : decode jL_law.2.1 723 = .ok (.aload_n 1, 1) := by decide +kernel
theorem DL_law_724 : decode jL_law.2.1 724 = .ok (.aload_n 0, 1) := by decide +kernel
theorem DL_law_725 : decode jL_law.2.1 725 = .ok (.iload_n 3, 1) := by decide +kernel
theorem DL_law_726 : decode jL_law.2.1 726 = .ok (.iconst 1, 1) := by decide +kernel
theorem DL_law_727 : decode jL_law.2.1 727 = .ok (.iadd, 1) := by decide +kernel
theorem DL_law_728 : decode jL_law.2.1 728 = .ok (.iaload, 1) := by decide +kernel
theorem DL_law_729 : decode jL_law.2.1 729 = .ok (.invokevirtual 93, 3) := by decide +kernel
theorem DL_law_732 : decode jL_law.2.1 732 = .ok (.aload_n 2, 1) := by decide +kernel
theorem DL_law_733 : decode jL_law.2.1 733 = .ok (.aload_n 0, 1) := by decide +kernel
theorem DL_law_734 : decode jL_law.2.1 734 = .ok (.iload_n 3, 1) := by decide +kernel
theorem DL_law_735 : decode jL_law.2.1 735 = .ok (.iconst 1, 1) := by decide +kernel
theorem DL_law_736 : decode jL_law.2.1 736 = .ok (.iadd, 1) := by decide +kernel
theorem DL_law_737 : decode jL_law.2.1 737 = .ok (.iaload, 1) := by decide +kernel
theorem DL_law_738 : decode jL_law.2.1 738 = .ok (.invokevirtual 96, 3) := by decide +kernel
theorem DL_law_741 : decode jL_law.2.1 741 = .ok (.if_icmp .eq 367, 3) := by decide +kernel
theorem DL_law_744 : decode jL_law.2.1 744 = .ok (.iconst 0, 1) := by decide +kernel
theorem DL_law_745 : decode jL_law.2.1 745 = .ok (.ireturn, 1) := by decide +kernel
theorem DL_law_746 : decode jL_law.2.1 746 = .ok (.aload_n 1, 1) := by decide +kernel
theorem DL_law_747 : decode jL_law.2.1 747 = .ok (.aload_n 0, 1) := by decide +kernel
theorem DL_law_748 : decode jL_law.2.1 748 = .ok (.iload_n 3, 1) := by decide +kernel
theorem DL_law_749 : decode jL_law.2.1 749 = .ok (.iconst 1, 1) := by decide +kernel
theorem DL_law_750 : decode jL_law.2.1 750 = .ok (.iadd, 1) := by decide +kernel
theorem DL_law_751 : decode jL_law.2.1 751 = .ok (.iaload, 1) := by decide +kernel
theorem DL_law_752 : decode jL_law.2.1 752 = .ok (.aload_n 0, 1) := by decide +kernel
theorem DL_law_753 : decode jL_law.2.1 753 = .ok (.iload_n 3, 1) := by decide +kernel
theorem DL_law_754 : decode jL_law.2.1 754 = .ok (.iconst 2, 1) := by decide +kernel
theorem DL_law_755 : decode jL_law.2.1 755 = .ok (.iadd, 1) := by decide +kernel
theorem DL_law_756 : decode jL_law.2.1 756 = .ok (.iaload, 1) := by decide +kernel
theorem DL_law_757 : decode jL_law.2.1 757 = .ok (.invokevirtual 97, 3) := by decide +kernel
theorem DL_law_760 : decode jL_law.2.1 760 = .ok (.aload_n 2, 1) := by decide +kernel
theorem DL_law_761 : decode jL_law.2.1 761 = .ok (.aload_n 0, 1) := by decide +kernel
theorem DL_law_762 : decode jL_law.2.1 762 = .ok (.iload_n 3, 1) := by decide +kernel
theorem DL_law_763 : decode jL_law.2.1 763 = .ok (.iconst 1, 1) := by decide +kernel
theorem DL_law_764 : decode jL_law.2.1 764 = .ok (.iadd, 1) := by decide +kernel
theorem DL_law_765 : decode jL_law.2.1 765 = .ok (.iaload, 1) := by decide +kernel
theorem DL_law_766 : decode jL_law.2.1 766 = .ok (.aload_n 0, 1) := by decide +kernel
theorem DL_law_767 : decode jL_law.2.1 767 = .ok (.iload_n 3, 1) := by decide +kernel
theorem DL_law_768 : decode jL_law.2.1 768 = .ok (.iconst 2, 1) := by decide +kernel
theorem DL_law_769 : decode jL_law.2.1 769 = .ok (.iadd, 1) := by decide +kernel
theorem DL_law_770 : decode jL_law.2.1 770 = .ok (.iaload, 1) := by decide +kernel
theorem DL_law_771 : decode jL_law.2.1 771 = .ok (.invokevirtual 100, 3) := by decide +kernel
theorem DL_law_774 : decode jL_law.2.1 774 = .ok (.if_icmp .eq 334, 3) := by decide +kernel
theorem DL_law_777 : decode jL_law.2.1 777 = .ok (.iconst 0, 1) := by decide +kernel
theorem DL_law_778 : decode jL_law.2.1 778 = .ok (.ireturn, 1) := by decide +kernel
theorem DL_law_779 : decode jL_law.2.1 779 = .ok (.aload_n 1, 1) := by decide +kernel
theorem DL_law_780 : decode jL_law.2.1 780 = .ok (.aload_n 0, 1) := by decide +kernel
theorem DL_law_781 : decode jL_law.2.1 781 = .ok (.iload_n 3, 1) := by decide +kernel
theorem DL_law_782 : decode jL_law.2.1 782 = .ok (.iconst 1, 1) := by decide +kernel
theorem DL_law_783 : decode jL_law.2.1 783 = .ok (.iadd, 1) := by decide +kernel
theorem DL_law_784 : decode jL_law.2.1 784 = .ok (.iaload, 1) := by decide +kernel
theorem DL_law_785 : decode jL_law.2.1 785 = .ok (.aload_n 0, 1) := by decide +kernel
theorem DL_law_786 : decode jL_law.2.1 786 = .ok (.iload_n 3, 1) := by decide +kernel
theorem DL_law_787 : decode jL_law.2.1 787 = .ok (.iconst 2, 1) := by decide +kernel
theorem DL_law_788 : decode jL_law.2.1 788 = .ok (.iadd, 1) := by decide +kernel
theorem DL_law_789 : decode jL_law.2.1 789 = .ok (.iaload, 1) := by decide +kernel
theorem DL_law_790 : decode jL_law.2.1 790 = .ok (.invokevirtual 101, 3) := by decide +kernel
theorem DL_law_793 : decode jL_law.2.1 793 = .ok (.aload_n 2, 1) := by decide +kernel
theorem DL_law_794 : decode jL_law.2.1 794 = .ok (.aload_n 0, 1) := by decide +kernel
theorem DL_law_795 : decode jL_law.2.1 795 = .ok (.iload_n 3, 1) := by decide +kernel
theorem DL_law_796 : decode jL_law.2.1 796 = .ok (.iconst 1, 1) := by decide +kernel
theorem DL_law_797 : decode jL_law.2.1 797 = .ok (.iadd, 1) := by decide +kernel
theorem DL_law_798 : decode jL_law.2.1 798 = .ok (.iaload, 1) := by decide +kernel
theorem DL_law_799 : decode jL_law.2.1 799 = .ok (.aload_n 0, 1) := by decide +kernel
theorem DL_law_800 : decode jL_law.2.1 800 = .ok (.iload_n 3, 1) := by decide +kernel
theorem DL_law_801 : decode jL_law.2.1 801 = .ok (.iconst 2, 1) := by decide +kernel
theorem DL_law_802 : decode jL_law.2.1 802 = .ok (.iadd, 1) := by decide +kernel
theorem DL_law_803 : decode jL_law.2.1 803 = .ok (.iaload, 1) := by decide +kernel
theorem DL_law_804 : decode jL_law.2.1 804 = .ok (.invokevirtual 104, 3) := by decide +kernel
theorem DL_law_807 : decode jL_law.2.1 807 = .ok (.if_icmp .eq 301, 3) := by decide +kernel
theorem DL_law_810 : decode jL_law.2.1 810 = .ok (.iconst 0, 1) := by decide +kernel
theorem DL_law_811 : decode jL_law.2.1 811 = .ok (.ireturn, 1) := by decide +kernel
theorem DL_law_812 : decode jL_law.2.1 812 = .ok (.aload_n 1, 1) := by decide +kernel
theorem DL_law_813 : decode jL_law.2.1 813 = .ok (.aload_n 0, 1) := by decide +kernel
theorem DL_law_814 : decode jL_law.2.1 814 = .ok (.iload_n 3, 1) := by decide +kernel
theorem DL_law_815 : decode jL_law.2.1 815 = .ok (.iconst 1, 1) := by decide +kernel
theorem DL_law_816 : decode jL_law.2.1 816 = .ok (.iadd, 1) := by decide +kernel
theorem DL_law_817 : decode jL_law.2.1 817 = .ok (.iaload, 1) := by decide +kernel
theorem DL_law_818 : decode jL_law.2.1 818 = .ok (.aload_n 0, 1) := by decide +kernel
theorem DL_law_819 : decode jL_law.2.1 819 = .ok (.iload_n 3, 1) := by decide +kernel
theorem DL_law_820 : decode jL_law.2.1 820 = .ok (.iconst 2, 1) := by decide +kernel
theorem DL_law_821 : decode jL_law.2.1 821 = .ok (.iadd, 1) := by decide +kernel
theorem DL_law_822 : decode jL_law.2.1 822 = .ok (.iaload, 1) := by decide +kernel
theorem DL_law_823 : decode jL_law.2.1 823 = .ok (.invokevirtual 105, 3) := by decide +kernel
theorem DL_law_826 : decode jL_law.2.1 826 = .ok (.aload_n 2, 1) := by decide +kernel
theorem DL_law_827 : decode jL_law.2.1 827 = .ok (.aload_n 0, 1) := by decide +kernel
theorem DL_law_828 : decode jL_law.2.1 828 = .ok (.iload_n 3, 1) := by decide +kernel
theorem DL_law_829 : decode jL_law.2.1 829 = .ok (.iconst 1, 1) := by decide +kernel
theorem DL_law_830 : decode jL_law.2.1 830 = .ok (.iadd, 1) := by decide +kernel
theorem DL_law_831 : decode jL_law.2.1 831 = .ok (.iaload, 1) := by decide +kernel
theorem DL_law_832 : decode jL_law.2.1 832 = .ok (.aload_n 0, 1) := by decide +kernel
theorem DL_law_833 : decode jL_law.2.1 833 = .ok (.iload_n 3, 1) := by decide +kernel
theorem DL_law_834 : decode jL_law.2.1 834 = .ok (.iconst 2, 1) := by decide +kernel
theorem DL_law_835 : decode jL_law.2.1 835 = .ok (.iadd, 1) := by decide +kernel
theorem DL_law_836 : decode jL_law.2.1 836 = .ok (.iaload, 1) := by decide +kernel
theorem DL_law_837 : decode jL_law.2.1 837 = .ok (.invokevirtual 108, 3) := by decide +kernel
theorem DL_law_840 : decode jL_law.2.1 840 = .ok (.if_icmp .eq 268, 3) := by decide +kernel
theorem DL_law_843 : decode jL_law.2.1 843 = .ok (.iconst 0, 1) := by decide +kernel
theorem DL_law_844 : decode jL_law.2.1 844 = .ok (.ireturn, 1) := by decide +kernel
theorem DL_law_845 : decode jL_law.2.1 845 = .ok (.aload_n 1, 1) := by decide +kernel
theorem DL_law_846 : decode jL_law.2.1 846 = .ok (.aload_n 0, 1) := by decide +kernel
theorem DL_law_847 : decode jL_law.2.1 847 = .ok (.iload_n 3, 1) := by decide +kernel
theorem DL_law_848 : decode jL_law.2.1 848 = .ok (.iconst 1, 1) := by decide +kernel
theorem DL_law_849 : decode jL_law.2.1 849 = .ok (.iadd, 1) := by decide +kernel
theorem DL_law_850 : decode jL_law.2.1 850 = .ok (.iaload, 1) := by decide +kernel
theorem DL_law_851 : decode jL_law.2.1 851 = .ok (.aload_n 0, 1) := by decide +kernel
theorem DL_law_852 : decode jL_law.2.1 852 = .ok (.iload_n 3, 1) := by decide +kernel
theorem DL_law_853 : decode jL_law.2.1 853 = .ok (.iconst 2, 1) := by decide +kernel
theorem DL_law_854 : decode jL_law.2.1 854 = .ok (.iadd, 1) := by decide +kernel
theorem DL_law_855 : decode jL_law.2.1 855 = .ok (.iaload, 1) := by decide +kernel
theorem DL_law_856 : decode jL_law.2.1 856 = .ok (.aload_n 0, 1) := by decide +kernel
theorem DL_law_857 : decode jL_law.2.1 857 = .ok (.iload_n 3, 1) := by decide +kernel
theorem DL_law_858 : decode jL_law.2.1 858 = .ok (.iconst 3, 1) := by decide +kernel
theorem DL_law_859 : decode jL_law.2.1 859 = .ok (.iadd, 1) := by decide +kernel
theorem DL_law_860 : decode jL_law.2.1 860 = .ok (.iaload, 1) := by decide +kernel
theorem DL_law_861 : decode jL_law.2.1 861 = .ok (.aload_n 0, 1) := by decide +kernel
theorem DL_law_862 : decode jL_law.2.1 862 = .ok (.iload_n 3, 1) := by decide +kernel
theorem DL_law_863 : decode jL_law.2.1 863 = .ok (.iconst 4, 1) := by decide +kernel
theorem DL_law_864 : decode jL_law.2.1 864 = .ok (.iadd, 1) := by decide +kernel
theorem DL_law_865 : decode jL_law.2.1 865 = .ok (.iaload, 1) := by decide +kernel
theorem DL_law_866 : decode jL_law.2.1 866 = .ok (.aload_n 0, 1) := by decide +kernel
theorem DL_law_867 : decode jL_law.2.1 867 = .ok (.iload_n 3, 1) := by decide +kernel
theorem DL_law_868 : decode jL_law.2.1 868 = .ok (.iconst 5, 1) := by decide +kernel
theorem DL_law_869 : decode jL_law.2.1 869 = .ok (.iadd, 1) := by decide +kernel
theorem DL_law_870 : decode jL_law.2.1 870 = .ok (.iaload, 1) := by decide +kernel
theorem DL_law_871 : decode jL_law.2.1 871 = .ok (.invokevirtual 109, 3) := by decide +kernel
theorem DL_law_874 : decode jL_law.2.1 874 = .ok (.aload_n 2, 1) := by decide +kernel
theorem DL_law_875 : decode jL_law.2.1 875 = .ok (.aload_n 0, 1) := by decide +kernel
theorem DL_law_876 : decode jL_law.2.1 876 = .ok (.iload_n 3, 1) := by decide +kernel
theorem DL_law_877 : decode jL_law.2.1 877 = .ok (.iconst 1, 1) := by decide +kernel
theorem DL_law_878 : decode jL_law.2.1 878 = .ok (.iadd, 1) := by decide +kernel
theorem DL_law_879 : decode jL_law.2.1 879 = .ok (.iaload, 1) := by decide +kernel
theorem DL_law_880 : decode jL_law.2.1 880 = .ok (.aload_n 0, 1) := by decide +kernel
theorem DL_law_881 : decode jL_law.2.1 881 = .ok (.iload_n 3, 1) := by decide +kernel
theorem DL_law_882 : decode jL_law.2.1 882 = .ok (.iconst 2, 1) := by decide +kernel
theorem DL_law_883 : decode jL_law.2.1 883 = .ok (.iadd, 1) := by decide +kernel
theorem DL_law_884 : decode jL_law.2.1 884 = .ok (.iaload, 1) := by decide +kernel
theorem DL_law_885 : decode jL_law.2.1 885 = .ok (.aload_n 0, 1) := by decide +kernel
theorem DL_law_886 : decode jL_law.2.1 886 = .ok (.iload_n 3, 1) := by decide +kernel
theorem DL_law_887 : decode jL_law.2.1 887 = .ok (.iconst 3, 1) := by decide +kernel
theorem DL_law_888 : decode jL_law.2.1 888 = .ok (.iadd, 1) := by decide +kernel
theorem DL_law_889 : decode jL_law.2.1 889 = .ok (.iaload, 1) := by decide +kernel
theorem DL_law_890 : decode jL_law.2.1 890 = .ok (.aload_n 0, 1) := by decide +kernel
theorem DL_law_891 : decode jL_law.2.1 891 = .ok (.iload_n 3, 1) := by decide +kernel
theorem DL_law_892 : decode jL_law.2.1 892 = .ok (.iconst 4, 1) := by decide +kernel
theorem DL_law_893 : decode jL_law.2.1 893 = .ok (.iadd, 1) := by decide +kernel
theorem DL_law_894 : decode jL_law.2.1 894 = .ok (.iaload, 1) := by decide +kernel
theorem DL_law_895 : decode jL_law.2.1 895 = .ok (.aload_n 0, 1) := by decide +kernel
theorem DL_law_896 : decode jL_law.2.1 896 = .ok (.iload_n 3, 1) := by decide +kernel
theorem DL_law_897 : decode jL_law.2.1 897 = .ok (.iconst 5, 1) := by decide +kernel
theorem DL_law_898 : decode jL_law.2.1 898 = .ok (.iadd, 1) := by decide +kernel
theorem DL_law_899 : decode jL_law.2.1 899 = .ok (.iaload, 1) := by decide +kernel
theorem DL_law_900 : decode jL_law.2.1 900 = .ok (.invokevirtual 113, 3) := by decide +kernel
theorem DL_law_903 : decode jL_law.2.1 903 = .ok (.if_icmp .eq 205, 3) := by decide +kernel
theorem DL_law_906 : decode jL_law.2.1 906 = .ok (.iconst 0, 1) := by decide +kernel
theorem DL_law_907 : decode jL_law.2.1 907 = .ok (.ireturn, 1) := by decide +kernel
theorem DL_law_908 : decode jL_law.2.1 908 = .ok (.aload_n 1, 1) := by decide +kernel
theorem DL_law_909 : decode jL_law.2.1 909 = .ok (.invokevirtual 114, 3) := by decide +kernel
theorem DL_law_912 : decode jL_law.2.1 912 = .ok (.aload_n 2, 1) := by decide +kernel
theorem DL_law_913 : decode jL_law.2.1 913 = .ok (.invokevirtual 117, 3) := by decide +kernel
theorem DL_law_916 : decode jL_law.2.1 916 = .ok (.if_icmp .eq 192, 3) := by decide +kernel
theorem DL_law_919 : decode jL_law.2.1 919 = .ok (.iconst 0, 1) := by decide +kernel
theorem DL_law_920 : decode jL_law.2.1 920 = .ok (.ireturn, 1) := by decide +kernel
theorem DL_law_921 : decode jL_law.2.1 921 = .ok (.aload_n 1, 1) := by decide +kernel
theorem DL_law_922 : decode jL_law.2.1 922 = .ok (.invokevirtual 118, 3) := by decide +kernel
theorem DL_law_925 : decode jL_law.2.1 925 = .ok (.aload_n 2, 1) := by decide +kernel
theorem DL_law_926 : decode jL_law.2.1 926 = .ok (.invokevirtual 121, 3) := by decide +kernel
theorem DL_law_929 : decode jL_law.2.1 929 = .ok (.if_icmp .eq 179, 3) := by decide +kernel
theorem DL_law_932 : decode jL_law.2.1 932 = .ok (.iconst 0, 1) := by decide +kernel
theorem DL_law_933 : decode jL_law.2.1 933 = .ok (.ireturn, 1) := by decide +kernel
theorem DL_law_934 : decode jL_law.2.1 934 = .ok (.aload_n 1, 1) := by decide +kernel
theorem DL_law_935 : decode jL_law.2.1 935 = .ok (.aload_n 0, 1) := by decide +kernel
theorem DL_law_936 : decode jL_law.2.1 936 = .ok (.iload_n 3, 1) := by decide +kernel
theorem DL_law_937 : decode jL_law.2.1 937 = .ok (.iconst 1, 1) := by decide +kernel
theorem DL_law_938 : decode jL_law.2.1 938 = .ok (.iadd, 1) := by decide +kernel
theorem DL_law_939 : decode jL_law.2.1 939 = .ok (.iaload, 1) := by decide +kernel
theorem DL_law_940 : decode jL_law.2.1 940 = .ok (.invokevirtual 122, 3) := by decide +kernel
theorem DL_law_943 : decode jL_law.2.1 943 = .ok (.aload_n 2, 1) := by decide +kernel
theorem DL_law_944 : decode jL_law.2.1 944 = .ok (.aload_n 0, 1) := by decide +kernel
theorem DL_law_945 : decode jL_law.2.1 945 = .ok (.iload_n 3, 1) := by decide +kernel
theorem DL_law_946 : decode jL_law.2.1 946 = .ok (.iconst 1, 1) := by decide +kernel
theorem DL_law_947 : decode jL_law.2.1 947 = .ok (.iadd, 1) := by decide +kernel
theorem DL_law_948 : decode jL_law.2.1 948 = .ok (.iaload, 1) := by decide +kernel
theorem DL_law_949 : decode jL_law.2.1 949 = .ok (.invokevirtual 125, 3) := by decide +kernel
theorem DL_law_952 : decode jL_law.2.1 952 = .ok (.if_icmp .eq 156, 3) := by decide +kernel
theorem DL_law_955 : decode jL_law.2.1 955 = .ok (.iconst 0, 1) := by decide +kernel
theorem DL_law_956 : decode jL_law.2.1 956 = .ok (.ireturn, 1) := by decide +kernel
theorem DL_law_957 : decode jL_law.2.1 957 = .ok (.aload_n 1, 1) := by decide +kernel
theorem DL_law_958 : decode jL_law.2.1 958 = .ok (.aload_n 0, 1) := by decide +kernel
theorem DL_law_959 : decode jL_law.2.1 959 = .ok (.iload_n 3, 1) := by decide +kernel
theorem DL_law_960 : decode jL_law.2.1 960 = .ok (.iconst 1, 1) := by decide +kernel
theorem DL_law_961 : decode jL_law.2.1 961 = .ok (.iadd, 1) := by decide +kernel
theorem DL_law_962 : decode jL_law.2.1 962 = .ok (.iaload, 1) := by decide +kernel
theorem DL_law_963 : decode jL_law.2.1 963 = .ok (.aload_n 0, 1) := by decide +kernel
theorem DL_law_964 : decode jL_law.2.1 964 = .ok (.iload_n 3, 1) := by decide +kernel
theorem DL_law_965 : decode jL_law.2.1 965 = .ok (.iconst 2, 1) := by decide +kernel
theorem DL_law_966 : decode jL_law.2.1 966 = .ok (.iadd, 1) := by decide +kernel
theorem DL_law_967 : decode jL_law.2.1 967 = .ok (.iaload, 1) := by decide +kernel
theorem DL_law_968 : decode jL_law.2.1 968 = .ok (.invokevirtual 126, 3) := by decide +kernel
theorem DL_law_971 : decode jL_law.2.1 971 = .ok (.aload_n 2, 1) := by decide +kernel
theorem DL_law_972 : decode jL_law.2.1 972 = .ok (.aload_n 0, 1) := by decide +kernel
theorem DL_law_973 : decode jL_law.2.1 973 = .ok (.iload_n 3, 1) := by decide +kernel
theorem DL_law_974 : decode jL_law.2.1 974 = .ok (.iconst 1, 1) := by decide +kernel
theorem DL_law_975 : decode jL_law.2.1 975 = .ok (.iadd, 1) := by decide +kernel
theorem DL_law_976 : decode jL_law.2.1 976 = .ok (.iaload, 1) := by decide +kernel
theorem DL_law_977 : decode jL_law.2.1 977 = .ok (.aload_n 0, 1) := by decide +kernel
theorem DL_law_978 : decode jL_law.2.1 978 = .ok (.iload_n 3, 1) := by decide +kernel
theorem DL_law_979 : decode jL_law.2.1 979 = .ok (.iconst 2, 1) := by decide +kernel
theorem DL_law_980 : decode jL_law.2.1 980 = .ok (.iadd, 1) := by decide +kernel
theorem DL_law_981 : decode jL_law.2.1 981 = .ok (.iaload, 1) := by decide +kernel
theorem DL_law_982 : decode jL_law.2.1 982 = .ok (.invokevirtual 129, 3) := by decide +kernel
theorem DL_law_985 : decode jL_law.2.1 985 = .ok (.if_icmp .eq 123, 3) := by decide +kernel
theorem DL_law_988 : decode jL_law.2.1 988 = .ok (.iconst 0, 1) := by decide +kernel
theorem DL_law_989 : decode jL_law.2.1 989 = .ok (.ireturn, 1) := by decide +kernel
theorem DL_law_990 : decode jL_law.2.1 990 = .ok (.aload_n 1, 1) := by decide +kernel
theorem DL_law_991 : decode jL_law.2.1 991 = .ok (.aload_n 0, 1) := by decide +kernel
theorem DL_law_992 : decode jL_law.2.1 992 = .ok (.iload_n 3, 1) := by decide +kernel
theorem DL_law_993 : decode jL_law.2.1 993 = .ok (.iconst 1, 1) := by decide +kernel
theorem DL_law_994 : decode jL_law.2.1 994 = .ok (.iadd, 1) := by decide +kernel
theorem DL_law_995 : decode jL_law.2.1 995 = .ok (.iaload, 1) := by decide +kernel
theorem DL_law_996 : decode jL_law.2.1 996 = .ok (.aload_n 0, 1) := by decide +kernel
theorem DL_law_997 : decode jL_law.2.1 997 = .ok (.iload_n 3, 1) := by decide +kernel
theorem DL_law_998 : decode jL_law.2.1 998 = .ok (.iconst 2, 1) := by decide +kernel
theorem DL_law_999 : decode jL_law.2.1 999 = .ok (.iadd, 1) := by decide +kernel
theorem DL_law_1000 : decode jL_law.2.1 1000 = .ok (.iaload, 1) := by decide +kernel
theorem DL_law_1001 : decode jL_law.2.1 1001 = .ok (.ifCond .eq 7, 3) := by decide +kernel
theorem DL_law_1004 : decode jL_law.2.1 1004 = .ok (.iconst 1, 1) := by decide +kernel
theorem DL_law_1005 : decode jL_law.2.1 1005 = .ok (.goto 4, 3) := by decide +kernel
theorem DL_law_1008 : decode jL_law.2.1 1008 = .ok (.iconst 0, 1) := by decide +kernel
theorem DL_law_1009 : decode jL_law.2.1 1009 = .ok (.invokevirtual 130, 3) := by decide +kernel
theorem DL_law_1012 : decode jL_law.2.1 1012 = .ok (.aload_n 2, 1) := by decide +kernel
theorem DL_law_1013 : decode jL_law.2.1 1013 = .ok (.aload_n 0, 1) := by decide +kernel
theorem DL_law_1014 : decode jL_law.2.1 1014 = .ok (.iload_n 3, 1) := by decide +kernel
theorem DL_law_1015 : decode jL_law.2.1 1015 = .ok (.iconst 1, 1) := by decide +kernel
theorem DL_law_1016 : decode jL_law.2.1 1016 = .ok (.iadd, 1) := by decide +kernel
theorem DL_law_1017 : decode jL_law.2.1 1017 = .ok (.iaload, 1) := by decide +kernel
theorem DL_law_1018 : decode jL_law.2.1 1018 = .ok (.aload_n 0, 1) := by decide +kernel
theorem DL_law_1019 : decode jL_law.2.1 1019 = .ok (.iload_n 3, 1) := by decide +kernel
theorem DL_law_1020 : decode jL_law.2.1 1020 = .ok (.iconst 2, 1) := by decide +kernel
theorem DL_law_1021 : decode jL_law.2.1 1021 = .ok (.iadd, 1) := by decide +kernel
theorem DL_law_1022 : decode jL_law.2.1 1022 = .ok (.iaload, 1) := by decide +kernel
theorem DL_law_1023 : decode jL_law.2.1 1023 = .ok (.ifCond .eq 7, 3) := by decide +kernel
theorem DL_law_1026 : decode jL_law.2.1 1026 = .ok (.iconst 1, 1) := by decide +kernel
theorem DL_law_1027 : decode jL_law.2.1 1027 = .ok (.goto 4, 3) := by decide +kernel
theorem DL_law_1030 : decode jL_law.2.1 1030 = .ok (.iconst 0, 1) := by decide +kernel
theorem DL_law_1031 : decode jL_law.2.1 1031 = .ok (.invokevirtual 134, 3) := by decide +kernel
theorem DL_law_1034 : decode jL_law.2.1 1034 = .ok (.if_icmp .eq 74, 3) := by decide +kernel
theorem DL_law_1037 : decode jL_law.2.1 1037 = .ok (.iconst 0, 1) := by decide +kernel
theorem DL_law_1038 : decode jL_law.2.1 1038 = .ok (.ireturn, 1) := by decide +kernel
theorem DL_law_1039 : decode jL_law.2.1 1039 = .ok (.aload_n 1, 1) := by decide +kernel
theorem DL_law_1040 : decode jL_law.2.1 1040 = .ok (.invokevirtual 135, 3) := by decide +kernel
theorem DL_law_1043 : decode jL_law.2.1 1043 = .ok (.aload_n 2, 1) := by decide +kernel
theorem DL_law_1044 : decode jL_law.2.1 1044 = .ok (.invokevirtual 138, 3) := by decide +kernel
theorem DL_law_1047 : decode jL_law.2.1 1047 = .ok (.if_icmp .eq 61, 3) := by decide +kernel
theorem DL_law_1050 : decode jL_law.2.1 1050 = .ok (.iconst 0, 1) := by decide +kernel
theorem DL_law_1051 : decode jL_law.2.1 1051 = .ok (.ireturn, 1) := by decide +kernel
theorem DL_law_1052 : decode jL_law.2.1 1052 = .ok (.aload_n 1, 1) := by decide +kernel
theorem DL_law_1053 : decode jL_law.2.1 1053 = .ok (.aload_n 0, 1) := by decide +kernel
theorem DL_law_1054 : decode jL_law.2.1 1054 = .ok (.iload_n 3, 1) := by decide +kernel
theorem DL_law_1055 : decode jL_law.2.1 1055 = .ok (.iconst 1, 1) := by decide +kernel
theorem DL_law_1056 : decode jL_law.2.1 1056 = .ok (.iadd, 1) := by decide +kernel
theorem DL_law_1057 : decode jL_law.2.1 1057 = .ok (.iaload, 1) := by decide +kernel
theorem DL_law_1058 : decode jL_law.2.1 1058 = .ok (.aload_n 0, 1) := by decide +kernel
theorem DL_law_1059 : decode jL_law.2.1 1059 = .ok (.iload_n 3, 1) := by decide +kernel
theorem DL_law_1060 : decode jL_law.2.1 1060 = .ok (.iconst 2, 1) := by decide +kernel
theorem DL_law_1061 : decode jL_law.2.1 1061 = .ok (.iadd, 1) := by decide +kernel
theorem DL_law_1062 : decode jL_law.2.1 1062 = .ok (.iaload, 1) := by decide +kernel
theorem DL_law_1063 : decode jL_law.2.1 1063 = .ok (.invokevirtual 139, 3) := by decide +kernel
theorem DL_law_1066 : decode jL_law.2.1 1066 = .ok (.aload_n 2, 1) := by decide +kernel
theorem DL_law_1067 : decode jL_law.2.1 1067 = .ok (.aload_n 0, 1) := by decide +kernel
theorem DL_law_1068 : decode jL_law.2.1 1068 = .ok (.iload_n 3, 1) := by decide +kernel
theorem DL_law_1069 : decode jL_law.2.1 1069 = .ok (.iconst 1, 1) := by decide +kernel
theorem DL_law_1070 : decode jL_law.2.1 1070 = .ok (.iadd, 1) := by decide +kernel
theorem DL_law_1071 : decode jL_law.2.1 1071 = .ok (.iaload, 1) := by decide +kernel
theorem DL_law_1072 : decode jL_law.2.1 1072 = .ok (.aload_n 0, 1) := by decide +kernel
theorem DL_law_1073 : decode jL_law.2.1 1073 = .ok (.iload_n 3, 1) := by decide +kernel
theorem DL_law_1074 : decode jL_law.2.1 1074 = .ok (.iconst 2, 1) := by decide +kernel
theorem DL_law_1075 : decode jL_law.2.1 1075 = .ok (.iadd, 1) := by decide +kernel
theorem DL_law_1076 : decode jL_law.2.1 1076 = .ok (.iaload, 1) := by decide +kernel
theorem DL_law_1077 : decode jL_law.2.1 1077 = .ok (.invokevirtual 142, 3) := by decide +kernel
theorem DL_law_1080 : decode jL_law.2.1 1080 = .ok (.if_icmp .eq 28, 3) := by decide +kernel
theorem DL_law_1083 : decode jL_law.2.1 1083 = .ok (.iconst 0, 1) := by decide +kernel
theorem DL_law_1084 : decode jL_law.2.1 1084 = .ok (.ireturn, 1) := by decide +kernel
theorem DL_law_1085 : decode jL_law.2.1 1085 = .ok (.aload_n 1, 1) := by decide +kernel
theorem DL_law_1086 : decode jL_law.2.1 1086 = .ok (.aload_n 0, 1) := by decide +kernel
theorem DL_law_1087 : decode jL_law.2.1 1087 = .ok (.iload_n 3, 1) := by decide +kernel
theorem DL_law_1088 : decode jL_law.2.1 1088 = .ok (.iconst 1, 1) := by decide +kernel
theorem DL_law_1089 : decode jL_law.2.1 1089 = .ok (.iadd, 1) := by decide +kernel
theorem DL_law_1090 : decode jL_law.2.1 1090 = .ok (.iaload, 1) := by decide +kernel
theorem DL_law_1091 : decode jL_law.2.1 1091 = .ok (.invokevirtual 143, 3) := by decide +kernel
theorem DL_law_1094 : decode jL_law.2.1 1094 = .ok (.aload_n 2, 1) := by decide +kernel
theorem DL_law_1095 : decode jL_law.2.1 1095 = .ok (.aload_n 0, 1) := by decide +kernel
theorem DL_law_1096 : decode jL_law.2.1 1096 = .ok (.iload_n 3, 1) := by decide +kernel
theorem DL_law_1097 : decode jL_law.2.1 1097 = .ok (.iconst 1, 1) := by decide +kernel
theorem DL_law_1098 : decode jL_law.2.1 1098 = .ok (.iadd, 1) := by decide +kernel
theorem DL_law_1099 : decode jL_law.2.1 1099 = .ok (.iaload, 1) := by decide +kernel
theorem DL_law_1100 : decode jL_law.2.1 1100 = .ok (.invokevirtual 146, 3) := by decide +kernel
theorem DL_law_1103 : decode jL_law.2.1 1103 = .ok (.if_icmp .eq 5, 3) := by decide +kernel
theorem DL_law_1106 : decode jL_law.2.1 1106 = .ok (.iconst 0, 1) := by decide +kernel
theorem DL_law_1107 : decode jL_law.2.1 1107 = .ok (.ireturn, 1) := by decide +kernel
theorem DL_law_1108 : decode jL_law.2.1 1108 = .ok (.iinc 3 6, 3) := by decide +kernel
theorem DL_law_1111 : decode jL_law.2.1 1111 = .ok (.goto (-1093), 3) := by decide +kernel
theorem DL_law_1114 : decode jL_law.2.1 1114 = .ok (.iconst 1, 1) := by decide +kernel
theorem DL_law_1115 : decode jL_law.2.1 1115 = .ok (.ireturn, 1) := by decide +kernel
