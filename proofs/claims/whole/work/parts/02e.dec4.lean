/-! what the bytes decode to -/
theorem DX12_init_0 : decode jX12_init.2.1 0 = .ok (.aload_n 0, 1) := by decide +kernel
theorem DX12_init_1 : decode jX12_init.2.1 1 = .ok (.invokespecial 1, 3) := by decide +kernel
theorem DX12_init_4 : decode jX12_init.2.1 4 = .ok (.aload_n 0, 1) := by decide +kernel
theorem DX12_init_5 : decode jX12_init.2.1 5 = .ok (.bipush 7, 2) := by decide +kernel
theorem DX12_init_7 : decode jX12_init.2.1 7 = .ok (.newarray .int, 2) := by decide +kernel
theorem DX12_init_9 : decode jX12_init.2.1 9 = .ok (.putfield 7, 3) := by decide +kernel
theorem DX12_init_12 : decode jX12_init.2.1 12 = .ok (.aload_n 0, 1) := by decide +kernel
theorem DX12_init_13 : decode jX12_init.2.1 13 = .ok (.bipush 52, 2) := by decide +kernel
theorem DX12_init_15 : decode jX12_init.2.1 15 = .ok (.newarray .int, 2) := by decide +kernel
theorem DX12_init_17 : decode jX12_init.2.1 17 = .ok (.putfield 13, 3) := by decide +kernel
theorem DX12_init_20 : decode jX12_init.2.1 20 = .ok (.aload_n 0, 1) := by decide +kernel
theorem DX12_init_21 : decode jX12_init.2.1 21 = .ok (.bipush 24, 2) := by decide +kernel
theorem DX12_init_23 : decode jX12_init.2.1 23 = .ok (.newarray .int, 2) := by decide +kernel
theorem DX12_init_25 : decode jX12_init.2.1 25 = .ok (.putfield 16, 3) := by decide +kernel
theorem DX12_init_28 : decode jX12_init.2.1 28 = .ok (.aload_n 0, 1) := by decide +kernel
theorem DX12_init_29 : decode jX12_init.2.1 29 = .ok (.bipush 24, 2) := by decide +kernel
theorem DX12_init_31 : decode jX12_init.2.1 31 = .ok (.newarray .int, 2) := by decide +kernel
theorem DX12_init_33 : decode jX12_init.2.1 33 = .ok (.putfield 19, 3) := by decide +kernel
theorem DX12_init_36 : decode jX12_init.2.1 36 = .ok (.aload_n 0, 1) := by decide +kernel
theorem DX12_init_37 : decode jX12_init.2.1 37 = .ok (.bipush 24, 2) := by decide +kernel
theorem DX12_init_39 : decode jX12_init.2.1 39 = .ok (.newarray .int, 2) := by decide +kernel
theorem DX12_init_41 : decode jX12_init.2.1 41 = .ok (.putfield 22, 3) := by decide +kernel
theorem DX12_init_44 : decode jX12_init.2.1 44 = .ok (.aload_n 0, 1) := by decide +kernel
theorem DX12_init_45 : decode jX12_init.2.1 45 = .ok (.bipush 24, 2) := by decide +kernel
theorem DX12_init_47 : decode jX12_init.2.1 47 = .ok (.newarray .int, 2) := by decide +kernel
theorem DX12_init_49 : decode jX12_init.2.1 49 = .ok (.putfield 25, 3) := by decide +kernel
theorem DX12_init_52 : decode jX12_init.2.1 52 = .ok (.aload_n 0, 1) := by decide +kernel
theorem DX12_init_53 : decode jX12_init.2.1 53 = .ok (.bipush 24, 2) := by decide +kernel
theorem DX12_init_55 : decode jX12_init.2.1 55 = .ok (.newarray .int, 2) := by decide +kernel
theorem DX12_init_57 : decode jX12_init.2.1 57 = .ok (.putfield 28, 3) := by decide +kernel
theorem DX12_init_60 : decode jX12_init.2.1 60 = .ok (.aload_n 0, 1) := by decide +kernel
theorem DX12_init_61 : decode jX12_init.2.1 61 = .ok (.bipush 24, 2) := by decide +kernel
theorem DX12_init_63 : decode jX12_init.2.1 63 = .ok (.newarray .int, 2) := by decide +kernel
theorem DX12_init_65 : decode jX12_init.2.1 65 = .ok (.putfield 31, 3) := by decide +kernel
theorem DX12_init_68 : decode jX12_init.2.1 68 = .ok (.aload_n 0, 1) := by decide +kernel
theorem DX12_init_69 : decode jX12_init.2.1 69 = .ok (.bipush 24, 2) := by decide +kernel
theorem DX12_init_71 : decode jX12_init.2.1 71 = .ok (.newarray .int, 2) := by decide +kernel
theorem DX12_init_73 : decode jX12_init.2.1 73 = .ok (.putfield 34, 3) := by decide +kernel
theorem DX12_init_76 : decode jX12_init.2.1 76 = .ok (.aload_n 0, 1) := by decide +kernel
theorem DX12_init_77 : decode jX12_init.2.1 77 = .ok (.bipush 24, 2) := by decide +kernel
theorem DX12_init_79 : decode jX12_init.2.1 79 = .ok (.newarray .boolean, 2) := by decide +kernel
theorem DX12_init_81 : decode jX12_init.2.1 81 = .ok (.putfield 37, 3) := by decide +kernel
theorem DX12_init_84 : decode jX12_init.2.1 84 = .ok (.aload_n 0, 1) := by decide +kernel
theorem DX12_init_85 : decode jX12_init.2.1 85 = .ok (.bipush 24, 2) := by decide +kernel
theorem DX12_init_87 : decode jX12_init.2.1 87 = .ok (.newarray .boolean, 2) := by decide +kernel
theorem DX12_init_89 : decode jX12_init.2.1 89 = .ok (.putfield 41, 3) := by decide +kernel
theorem DX12_init_92 : decode jX12_init.2.1 92 = .ok (.aload_n 0, 1) := by decide +kernel
theorem DX12_init_93 : decode jX12_init.2.1 93 = .ok (.sipush 200, 3) := by decide +kernel
theorem DX12_init_96 : decode jX12_init.2.1 96 = .ok (.newarray .int, 2) := by decide +kernel
theorem DX12_init_98 : decode jX12_init.2.1 98 = .ok (.putfield 44, 3) := by decide +kernel
theorem DX12_init_101 : decode jX12_init.2.1 101 = .ok (.aload_n 0, 1) := by decide +kernel
theorem DX12_init_102 : decode jX12_init.2.1 102 = .ok (.sipush 200, 3) := by decide +kernel
theorem DX12_init_105 : decode jX12_init.2.1 105 = .ok (.newarray .int, 2) := by decide +kernel
theorem DX12_init_107 : decode jX12_init.2.1 107 = .ok (.putfield 47, 3) := by decide +kernel
theorem DX12_init_110 : decode jX12_init.2.1 110 = .ok (.aload_n 0, 1) := by decide +kernel
theorem DX12_init_111 : decode jX12_init.2.1 111 = .ok (.sipush 200, 3) := by decide +kernel
theorem DX12_init_114 : decode jX12_init.2.1 114 = .ok (.newarray .int, 2) := by decide +kernel
theorem DX12_init_116 : decode jX12_init.2.1 116 = .ok (.putfield 50, 3) := by decide +kernel
theorem DX12_init_119 : decode jX12_init.2.1 119 = .ok (.aload_n 0, 1) := by decide +kernel
theorem DX12_init_120 : decode jX12_init.2.1 120 = .ok (.sipush 200, 3) := by decide +kernel
theorem DX12_init_123 : decode jX12_init.2.1 123 = .ok (.newarray .int, 2) := by decide +kernel
theorem DX12_init_125 : decode jX12_init.2.1 125 = .ok (.putfield 53, 3) := by decide +kernel
theorem DX12_init_128 : decode jX12_init.2.1 128 = .ok (.aload_n 0, 1) := by decide +kernel
theorem DX12_init_129 : decode jX12_init.2.1 129 = .ok (.sipush 600, 3) := by decide +kernel
theorem DX12_init_132 : decode jX12_init.2.1 132 = .ok (.newarray .int, 2) := by decide +kernel
theorem DX12_init_134 : decode jX12_init.2.1 134 = .ok (.putfield 56, 3) := by decide +kernel
theorem DX12_init_137 : decode jX12_init.2.1 137 = .ok (.aload_n 0, 1) := by decide +kernel
theorem DX12_init_138 : decode jX12_init.2.1 138 = .ok (.sipush 600, 3) := by decide +kernel
theorem DX12_init_141 : decode jX12_init.2.1 141 = .ok (.newarray .int, 2) := by decide +kernel
theorem DX12_init_143 : decode jX12_init.2.1 143 = .ok (.putfield 59, 3) := by decide +kernel
theorem DX12_init_146 : decode jX12_init.2.1 146 = .ok (.aload_n 0, 1) := by decide +kernel
theorem DX12_init_147 : decode jX12_init.2.1 147 = .ok (.sipush 200, 3) := by decide +kernel
theorem DX12_init_150 : decode jX12_init.2.1 150 = .ok (.newarray .boolean, 2) := by decide +kernel
theorem DX12_init_152 : decode jX12_init.2.1 152 = .ok (.putfield 62, 3) := by decide +kernel
theorem DX12_init_155 : decode jX12_init.2.1 155 = .ok (.aload_n 0, 1) := by decide +kernel
theorem DX12_init_156 : decode jX12_init.2.1 156 = .ok (.bipush 6, 2) := by decide +kernel
theorem DX12_init_158 : decode jX12_init.2.1 158 = .ok (.newarray .int, 2) := by decide +kernel
theorem DX12_init_160 : decode jX12_init.2.1 160 = .ok (.putfield 65, 3) := by decide +kernel
theorem DX12_init_163 : decode jX12_init.2.1 163 = .ok (.aload_n 0, 1) := by decide +kernel
theorem DX12_init_164 : decode jX12_init.2.1 164 = .ok (.bipush 6, 2) := by decide +kernel
theorem DX12_init_166 : decode jX12_init.2.1 166 = .ok (.newarray .int, 2) := by decide +kernel
theorem DX12_init_168 : decode jX12_init.2.1 168 = .ok (.putfield 68, 3) := by decide +kernel
theorem DX12_init_171 : decode jX12_init.2.1 171 = .ok (.aload_n 0, 1) := by decide +kernel
theorem DX12_init_172 : decode jX12_init.2.1 172 = .ok (.bipush 6, 2) := by decide +kernel
theorem DX12_init_174 : decode jX12_init.2.1 174 = .ok (.newarray .int, 2) := by decide +kernel
theorem DX12_init_176 : decode jX12_init.2.1 176 = .ok (.putfield 71, 3) := by decide +kernel
theorem DX12_init_179 : decode jX12_init.2.1 179 = .ok (.aload_n 0, 1) := by decide +kernel
theorem DX12_init_180 : decode jX12_init.2.1 180 = .ok (.bipush 6, 2) := by decide +kernel
theorem DX12_init_182 : decode jX12_init.2.1 182 = .ok (.newarray .int, 2) := by decide +kernel
theorem DX12_init_184 : decode jX12_init.2.1 184 = .ok (.putfield 74, 3) := by decide +kernel
theorem DX12_init_187 : decode jX12_init.2.1 187 = .ok (.aload_n 0, 1) := by decide +kernel
theorem DX12_init_188 : decode jX12_init.2.1 188 = .ok (.bipush 120, 2) := by decide +kernel
theorem DX12_init_190 : decode jX12_init.2.1 190 = .ok (.newarray .int, 2) := by decide +kernel
theorem DX12_init_192 : decode jX12_init.2.1 192 = .ok (.putfield 77, 3) := by decide +kernel
theorem DX12_init_195 : decode jX12_init.2.1 195 = .ok (.aload_n 0, 1) := by decide +kernel
theorem DX12_init_196 : decode jX12_init.2.1 196 = .ok (.bipush 24, 2) := by decide +kernel
theorem DX12_init_198 : decode jX12_init.2.1 198 = .ok (.newarray .int, 2) := by decide +kernel
theorem DX12_init_200 : decode jX12_init.2.1 200 = .ok (.putfield 80, 3) := by decide +kernel
theorem DX12_init_203 : decode jX12_init.2.1 203 = .ok (.aload_n 0, 1) := by decide +kernel
theorem DX12_init_204 : decode jX12_init.2.1 204 = .ok (.bipush 9, 2) := by decide +kernel
theorem DX12_init_206 : decode jX12_init.2.1 206 = .ok (.newarray .int, 2) := by decide +kernel
theorem DX12_init_208 : decode jX12_init.2.1 208 = .ok (.putfield 83, 3) := by decide +kernel
theorem DX12_init_211 : decode jX12_init.2.1 211 = .ok (.aload_n 0, 1) := by decide +kernel
theorem DX12_init_212 : decode jX12_init.2.1 212 = .ok (.bipush 12, 2) := by decide +kernel
theorem DX12_init_214 : decode jX12_init.2.1 214 = .ok (.newarray .int, 2) := by decide +kernel
theorem DX12_init_216 : decode jX12_init.2.1 216 = .ok (.putfield 86, 3) := by decide +kernel
theorem DX12_init_219 : decode jX12_init.2.1 219 = .ok (.aload_n 0, 1) := by decide +kernel
theorem DX12_init_220 : decode jX12_init.2.1 220 = .ok (.bipush 12, 2) := by decide +kernel
theorem DX12_init_222 : decode jX12_init.2.1 222 = .ok (.newarray .int, 2) := by decide +kernel
theorem DX12_init_224 : decode jX12_init.2.1 224 = .ok (.putfield 89, 3) := by decide +kernel
theorem DX12_init_227 : decode jX12_init.2.1 227 = .ok (.aload_n 0, 1) := by decide +kernel
theorem DX12_init_228 : decode jX12_init.2.1 228 = .ok (.bipush 12, 2) := by decide +kernel
theorem DX12_init_230 : decode jX12_init.2.1 230 = .ok (.newarray .int, 2) := by decide +kernel
theorem DX12_init_232 : decode jX12_init.2.1 232 = .ok (.putfield 92, 3) := by decide +kernel
theorem DX12_init_235 : decode jX12_init.2.1 235 = .ok (.aload_n 0, 1) := by decide +kernel
theorem DX12_init_236 : decode jX12_init.2.1 236 = .ok (.bipush 12, 2) := by decide +kernel
theorem DX12_init_238 : decode jX12_init.2.1 238 = .ok (.newarray .int, 2) := by decide +kernel
theorem DX12_init_240 : decode jX12_init.2.1 240 = .ok (.putfield 95, 3) := by decide +kernel
theorem DX12_init_243 : decode jX12_init.2.1 243 = .ok (.aload_n 0, 1) := by decide +kernel
theorem DX12_init_244 : decode jX12_init.2.1 244 = .ok (.bipush 12, 2) := by decide +kernel
theorem DX12_init_246 : decode jX12_init.2.1 246 = .ok (.newarray .int, 2) := by decide +kernel
theorem DX12_init_248 : decode jX12_init.2.1 248 = .ok (.putfield 98, 3) := by decide +kernel
theorem DX12_init_251 : decode jX12_init.2.1 251 = .ok (.aload_n 0, 1) := by decide +kernel
theorem DX12_init_252 : decode jX12_init.2.1 252 = .ok (.bipush 8, 2) := by decide +kernel
theorem DX12_init_254 : decode jX12_init.2.1 254 = .ok (.newarray .int, 2) := by decide +kernel
theorem DX12_init_256 : decode jX12_init.2.1 256 = .ok (.putfield 101, 3) := by decide +kernel
theorem DX12_init_259 : decode jX12_init.2.1 259 = .ok (.aload_n 0, 1) := by decide +kernel
theorem DX12_init_260 : decode jX12_init.2.1 260 = .ok (.bipush 8, 2) := by decide +kernel
theorem DX12_init_262 : decode jX12_init.2.1 262 = .ok (.newarray .int, 2) := by decide +kernel
theorem DX12_init_264 : decode jX12_init.2.1 264 = .ok (.putfield 104, 3) := by decide +kernel
theorem DX12_init_267 : decode jX12_init.2.1 267 = .ok (.aload_n 0, 1) := by decide +kernel
theorem DX12_init_268 : decode jX12_init.2.1 268 = .ok (.bipush 9, 2) := by decide +kernel
theorem DX12_init_270 : decode jX12_init.2.1 270 = .ok (.newarray .int, 2) := by decide +kernel
theorem DX12_init_272 : decode jX12_init.2.1 272 = .ok (.putfield 107, 3) := by decide +kernel
theorem DX12_init_275 : decode jX12_init.2.1 275 = .ok (.aload_n 0, 1) := by decide +kernel
theorem DX12_init_276 : decode jX12_init.2.1 276 = .ok (.bipush 30, 2) := by decide +kernel
theorem DX12_init_278 : decode jX12_init.2.1 278 = .ok (.newarray .int, 2) := by decide +kernel
theorem DX12_init_280 : decode jX12_init.2.1 280 = .ok (.putfield 110, 3) := by decide +kernel
theorem DX12_init_283 : decode jX12_init.2.1 283 = .ok (.aload_n 0, 1) := by decide +kernel
theorem DX12_init_284 : decode jX12_init.2.1 284 = .ok (.bipush 30, 2) := by decide +kernel
theorem DX12_init_286 : decode jX12_init.2.1 286 = .ok (.newarray .int, 2) := by decide +kernel
theorem DX12_init_288 : decode jX12_init.2.1 288 = .ok (.putfield 113, 3) := by decide +kernel
theorem DX12_init_291 : decode jX12_init.2.1 291 = .ok (.aload_n 0, 1) := by decide +kernel
theorem DX12_init_292 : decode jX12_init.2.1 292 = .ok (.bipush 30, 2) := by decide +kernel
theorem DX12_init_294 : decode jX12_init.2.1 294 = .ok (.newarray .boolean, 2) := by decide +kernel
theorem DX12_init_296 : decode jX12_init.2.1 296 = .ok (.putfield 116, 3) := by decide +kernel
theorem DX12_init_299 : decode jX12_init.2.1 299 = .ok (.iconst 0, 1) := by decide +kernel
theorem DX12_init_300 : decode jX12_init.2.1 300 = .ok (.istore_n 1, 1) := by decide +kernel
theorem DX12_init_301 : decode jX12_init.2.1 301 = .ok (.iload_n 1, 1) := by decide +kernel
theorem DX12_init_302 : decode jX12_init.2.1 302 = .ok (.bipush 52, 2) := by decide +kernel
theorem DX12_init_304 : decode jX12_init.2.1 304 = .ok (.if_icmp .ge 16, 3) := by decide +kernel
theorem DX12_init_307 : decode jX12_init.2.1 307 = .ok (.aload_n 0, 1) := by decide +kernel
theorem DX12_init_308 : decode jX12_init.2.1 308 = .ok (.getfield 13, 3) := by decide +kernel
theorem DX12_init_311 : decode jX12_init.2.1 311 = .ok (.iload_n 1, 1) := by decide +kernel
theorem DX12_init_312 : decode jX12_init.2.1 312 = .ok (.iconst (-1), 1) := by decide +kernel
theorem DX12_init_313 : decode jX12_init.2.1 313 = .ok (.iastore, 1) := by decide +kernel
theorem DX12_init_314 : decode jX12_init.2.1 314 = .ok (.iinc 1 1, 3) := by decide +kernel
theorem DX12_init_317 : decode jX12_init.2.1 317 = .ok (.goto (-16), 3) := by decide +kernel
theorem DX12_init_320 : decode jX12_init.2.1 320 = .ok (.iconst 0, 1) := by decide +kernel
theorem DX12_init_321 : decode jX12_init.2.1 321 = .ok (.istore_n 1, 1) := by decide +kernel
theorem DX12_init_322 : decode jX12_init.2.1 322 = .ok (.iload_n 1, 1) := by decide +kernel
theorem DX12_init_323 : decode jX12_init.2.1 323 = .ok (.bipush 6, 2) := by decide +kernel
theorem DX12_init_325 : decode jX12_init.2.1 325 = .ok (.if_icmp .ge 17, 3) := by decide +kernel
theorem DX12_init_328 : decode jX12_init.2.1 328 = .ok (.aload_n 0, 1) := by decide +kernel
theorem DX12_init_329 : decode jX12_init.2.1 329 = .ok (.getfield 65, 3) := by decide +kernel
theorem DX12_init_332 : decode jX12_init.2.1 332 = .ok (.iload_n 1, 1) := by decide +kernel
theorem DX12_init_333 : decode jX12_init.2.1 333 = .ok (.bipush (-9), 2) := by decide +kernel
theorem DX12_init_335 : decode jX12_init.2.1 335 = .ok (.iastore, 1) := by decide +kernel
theorem DX12_init_336 : decode jX12_init.2.1 336 = .ok (.iinc 1 1, 3) := by decide +kernel
theorem DX12_init_339 : decode jX12_init.2.1 339 = .ok (.goto (-17), 3) := by decide +kernel
theorem DX12_init_342 : decode jX12_init.2.1 342 = .ok (.return_, 1) := by decide +kernel
theorem DX12_refuse_0 : decode jX12_refuse.2.1 0 = .ok (.aload_n 0, 1) := by decide +kernel
theorem DX12_refuse_1 : decode jX12_refuse.2.1 1 = .ok (.getfield 7, 3) := by decide +kernel
theorem DX12_refuse_4 : decode jX12_refuse.2.1 4 = .ok (.iload_n 1, 1) := by decide +kernel
theorem DX12_refuse_5 : decode jX12_refuse.2.1 5 = .ok (.ineg, 1) := by decide +kernel
theorem DX12_refuse_6 : decode jX12_refuse.2.1 6 = .ok (.dup2, 1) := by decide +kernel
theorem DX12_refuse_7 : decode jX12_refuse.2.1 7 = .ok (.iaload, 1) := by decide +kernel
theorem DX12_refuse_8 : decode jX12_refuse.2.1 8 = .ok (.iconst 1, 1) := by decide +kernel
theorem DX12_refuse_9 : decode jX12_refuse.2.1 9 = .ok (.iadd, 1) := by decide +kernel
theorem DX12_refuse_10 : decode jX12_refuse.2.1 10 = .ok (.iastore, 1) := by decide +kernel
theorem DX12_refuse_11 : decode jX12_refuse.2.1 11 = .ok (.iload_n 1, 1) := by decide +kernel
theorem DX12_refuse_12 : decode jX12_refuse.2.1 12 = .ok (.ireturn, 1) := by decide +kernel
theorem DX12_refuseFar_0 : decode jX12_refuseFar.2.1 0 = .ok (.ldc 119, 2) := by decide +kernel
theorem DX12_refuseFar_2 : decode jX12_refuseFar.2.1 2 = .ok (.aload_n 0, 1) := by decide +kernel
theorem DX12_refuseFar_3 : decode jX12_refuseFar.2.1 3 = .ok (.iload_n 1, 1) := by decide +kernel
theorem DX12_refuseFar_4 : decode jX12_refuseFar.2.1 4 = .ok (.invokevirtual 120, 3) := by decide +kernel
theorem DX12_refuseFar_7 : decode jX12_refuseFar.2.1 7 = .ok (.isub, 1) := by decide +kernel
theorem DX12_refuseFar_8 : decode jX12_refuseFar.2.1 8 = .ok (.ireturn, 1) := by decide +kernel
theorem DX12_isIn_0 : decode jX12_isIn.2.1 0 = .ok (.iload_n 0, 1) := by decide +kernel
theorem DX12_isIn_1 : decode jX12_isIn.2.1 1 = .ok (.ifCond .lt 12, 3) := by decide +kernel
theorem DX12_isIn_4 : decode jX12_isIn.2.1 4 = .ok (.iload_n 0, 1) := by decide +kernel
theorem DX12_isIn_5 : decode jX12_isIn.2.1 5 = .ok (.iload_n 1, 1) := by decide +kernel
theorem DX12_isIn_6 : decode jX12_isIn.2.1 6 = .ok (.if_icmp .ge 7, 3) := by decide +kernel
theorem DX12_isIn_9 : decode jX12_isIn.2.1 9 = .ok (.iconst 1, 1) := by decide +kernel
theorem DX12_isIn_10 : decode jX12_isIn.2.1 10 = .ok (.goto 4, 3) := by decide +kernel
theorem DX12_isIn_13 : decode jX12_isIn.2.1 13 = .ok (.iconst 0, 1) := by decide +kernel
theorem DX12_isIn_14 : decode jX12_isIn.2.1 14 = .ok (.ireturn, 1) := by decide +kernel
theorem DX12_wrong_0 : decode jX12_wrong.2.1 0 = .ok (.iload_n 0, 1) := by decide +kernel
theorem DX12_wrong_1 : decode jX12_wrong.2.1 1 = .ok (.iload_n 1, 1) := by decide +kernel
theorem DX12_wrong_2 : decode jX12_wrong.2.1 2 = .ok (.if_icmp .ge 8, 3) := by decide +kernel
theorem DX12_wrong_5 : decode jX12_wrong.2.1 5 = .ok (.bipush (-4), 2) := by decide +kernel
theorem DX12_wrong_7 : decode jX12_wrong.2.1 7 = .ok (.goto 14, 3) := by decide +kernel
theorem DX12_wrong_10 : decode jX12_wrong.2.1 10 = .ok (.iload_n 0, 1) := by decide +kernel
theorem DX12_wrong_11 : decode jX12_wrong.2.1 11 = .ok (.iload_n 2, 1) := by decide +kernel
theorem DX12_wrong_12 : decode jX12_wrong.2.1 12 = .ok (.if_icmp .le 8, 3) := by decide +kernel
theorem DX12_wrong_15 : decode jX12_wrong.2.1 15 = .ok (.bipush (-6), 2) := by decide +kernel
theorem DX12_wrong_17 : decode jX12_wrong.2.1 17 = .ok (.goto 4, 3) := by decide +kernel
theorem DX12_wrong_20 : decode jX12_wrong.2.1 20 = .ok (.iconst 0, 1) := by decide +kernel
theorem DX12_wrong_21 : decode jX12_wrong.2.1 21 = .ok (.ireturn, 1) := by decide +kernel
theorem DX12_rain_0 : decode jX12_rain.2.1 0 = .ok (.iload_n 1, 1) := by decide +kernel
theorem DX12_rain_1 : decode jX12_rain.2.1 1 = .ok (.bipush 52, 2) := by decide +kernel
theorem DX12_rain_3 : decode jX12_rain.2.1 3 = .ok (.invokestatic 124, 3) := by decide +kernel
theorem DX12_rain_6 : decode jX12_rain.2.1 6 = .ok (.ifCond .eq 13, 3) := by decide +kernel
theorem DX12_rain_9 : decode jX12_rain.2.1 9 = .ok (.iload_n 2, 1) := by decide +kernel
theorem DX12_rain_10 : decode jX12_rain.2.1 10 = .ok (.iconst (-1), 1) := by decide +kernel
theorem DX12_rain_11 : decode jX12_rain.2.1 11 = .ok (.bipush 9, 2) := by decide +kernel
theorem DX12_rain_13 : decode jX12_rain.2.1 13 = .ok (.invokestatic 128, 3) := by decide +kernel
theorem DX12_rain_16 : decode jX12_rain.2.1 16 = .ok (.goto 4, 3) := by decide +kernel
theorem DX12_rain_19 : decode jX12_rain.2.1 19 = .ok (.iconst (-1), 1) := by decide +kernel
theorem DX12_rain_20 : decode jX12_rain.2.1 20 = .ok (.istore_n 3, 1) := by decide +kernel
theorem DX12_rain_21 : decode jX12_rain.2.1 21 = .ok (.iload_n 3, 1) := by decide +kernel
theorem DX12_rain_22 : decode jX12_rain.2.1 22 = .ok (.ifCond .eq 9, 3) := by decide +kernel
theorem DX12_rain_25 : decode jX12_rain.2.1 25 = .ok (.aload_n 0, 1) := by decide +kernel
theorem DX12_rain_26 : decode jX12_rain.2.1 26 = .ok (.iload_n 3, 1) := by decide +kernel
theorem DX12_rain_27 : decode jX12_rain.2.1 27 = .ok (.invokevirtual 132, 3) := by decide +kernel
theorem DX12_rain_30 : decode jX12_rain.2.1 30 = .ok (.ireturn, 1) := by decide +kernel
theorem DX12_rain_31 : decode jX12_rain.2.1 31 = .ok (.aload_n 0, 1) := by decide +kernel
theorem DX12_rain_32 : decode jX12_rain.2.1 32 = .ok (.getfield 13, 3) := by decide +kernel
theorem DX12_rain_35 : decode jX12_rain.2.1 35 = .ok (.iload_n 1, 1) := by decide +kernel
theorem DX12_rain_36 : decode jX12_rain.2.1 36 = .ok (.iaload, 1) := by decide +kernel
theorem DX12_rain_37 : decode jX12_rain.2.1 37 = .ok (.istore 4, 2) := by decide +kernel
theorem DX12_rain_39 : decode jX12_rain.2.1 39 = .ok (.aload_n 0, 1) := by decide +kernel
theorem DX12_rain_40 : decode jX12_rain.2.1 40 = .ok (.getfield 13, 3) := by decide +kernel
theorem DX12_rain_43 : decode jX12_rain.2.1 43 = .ok (.iload_n 1, 1) := by decide +kernel
theorem DX12_rain_44 : decode jX12_rain.2.1 44 = .ok (.iload_n 2, 1) := by decide +kernel
theorem DX12_rain_45 : decode jX12_rain.2.1 45 = .ok (.iastore, 1) := by decide +kernel
theorem DX12_rain_46 : decode jX12_rain.2.1 46 = .ok (.iload 4, 2) := by decide +kernel
theorem DX12_rain_48 : decode jX12_rain.2.1 48 = .ok (.ireturn, 1) := by decide +kernel
theorem DX12_rainOf_0 : decode jX12_rainOf.2.1 0 = .ok (.iload_n 1, 1) := by decide +kernel
theorem DX12_rainOf_1 : decode jX12_rainOf.2.1 1 = .ok (.bipush 52, 2) := by decide +kernel
theorem DX12_rainOf_3 : decode jX12_rainOf.2.1 3 = .ok (.invokestatic 124, 3) := by decide +kernel
theorem DX12_rainOf_6 : decode jX12_rainOf.2.1 6 = .ok (.ifCond .eq 11, 3) := by decide +kernel
theorem DX12_rainOf_9 : decode jX12_rainOf.2.1 9 = .ok (.aload_n 0, 1) := by decide +kernel
theorem DX12_rainOf_10 : decode jX12_rainOf.2.1 10 = .ok (.iload_n 1, 1) := by decide +kernel
theorem DX12_rainOf_11 : decode jX12_rainOf.2.1 11 = .ok (.invokevirtual 141, 3) := by decide +kernel
theorem DX12_rainOf_14 : decode jX12_rainOf.2.1 14 = .ok (.goto 8, 3) := by decide +kernel
theorem DX12_rainOf_17 : decode jX12_rainOf.2.1 17 = .ok (.aload_n 0, 1) := by decide +kernel
theorem DX12_rainOf_18 : decode jX12_rainOf.2.1 18 = .ok (.iconst (-1), 1) := by decide +kernel
theorem DX12_rainOf_19 : decode jX12_rainOf.2.1 19 = .ok (.invokevirtual 120, 3) := by decide +kernel
theorem DX12_rainOf_22 : decode jX12_rainOf.2.1 22 = .ok (.ireturn, 1) := by decide +kernel
theorem DX12_isHouse_0 : decode jX12_isHouse.2.1 0 = .ok (.iload_n 1, 1) := by decide +kernel
theorem DX12_isHouse_1 : decode jX12_isHouse.2.1 1 = .ok (.aload_n 0, 1) := by decide +kernel
theorem DX12_isHouse_2 : decode jX12_isHouse.2.1 2 = .ok (.getfield 144, 3) := by decide +kernel
theorem DX12_isHouse_5 : decode jX12_isHouse.2.1 5 = .ok (.invokestatic 124, 3) := by decide +kernel
theorem DX12_isHouse_8 : decode jX12_isHouse.2.1 8 = .ok (.ireturn, 1) := by decide +kernel
theorem DX12_house_0 : decode jX12_house.2.1 0 = .ok (.iload_n 1, 1) := by decide +kernel
theorem DX12_house_1 : decode jX12_house.2.1 1 = .ok (.iconst 4, 1) := by decide +kernel
theorem DX12_house_2 : decode jX12_house.2.1 2 = .ok (.invokestatic 124, 3) := by decide +kernel
theorem DX12_house_5 : decode jX12_house.2.1 5 = .ok (.ifCond .ne 9, 3) := by decide +kernel
theorem DX12_house_8 : decode jX12_house.2.1 8 = .ok (.aload_n 0, 1) := by decide +kernel
theorem DX12_house_9 : decode jX12_house.2.1 9 = .ok (.iconst (-1), 1) := by decide +kernel
theorem DX12_house_10 : decode jX12_house.2.1 10 = .ok (.invokevirtual 120, 3) := by decide +kernel
theorem DX12_house_13 : decode jX12_house.2.1 13 = .ok (.ireturn, 1) := by decide +kernel
theorem DX12_house_14 : decode jX12_house.2.1 14 = .ok (.iload_n 2, 1) := by decide +kernel
theorem DX12_house_15 : decode jX12_house.2.1 15 = .ok (.iconst 1, 1) := by decide +kernel
theorem DX12_house_16 : decode jX12_house.2.1 16 = .ok (.if_icmp .ge 10, 3) := by decide +kernel
theorem DX12_house_19 : decode jX12_house.2.1 19 = .ok (.aload_n 0, 1) := by decide +kernel
theorem DX12_house_20 : decode jX12_house.2.1 20 = .ok (.bipush (-4), 2) := by decide +kernel
theorem DX12_house_22 : decode jX12_house.2.1 22 = .ok (.invokevirtual 120, 3) := by decide +kernel
theorem DX12_house_25 : decode jX12_house.2.1 25 = .ok (.ireturn, 1) := by decide +kernel
theorem DX12_house_26 : decode jX12_house.2.1 26 = .ok (.iload_n 2, 1) := by decide +kernel
theorem DX12_house_27 : decode jX12_house.2.1 27 = .ok (.bipush 9, 2) := by decide +kernel
theorem DX12_house_29 : decode jX12_house.2.1 29 = .ok (.if_icmp .gt 12, 3) := by decide +kernel
theorem DX12_house_32 : decode jX12_house.2.1 32 = .ok (.aload_n 0, 1) := by decide +kernel
theorem DX12_house_33 : decode jX12_house.2.1 33 = .ok (.getfield 144, 3) := by decide +kernel
theorem DX12_house_36 : decode jX12_house.2.1 36 = .ok (.bipush 24, 2) := by decide +kernel
theorem DX12_house_38 : decode jX12_house.2.1 38 = .ok (.if_icmp .ne 10, 3) := by decide +kernel
theorem DX12_house_41 : decode jX12_house.2.1 41 = .ok (.aload_n 0, 1) := by decide +kernel
theorem DX12_house_42 : decode jX12_house.2.1 42 = .ok (.bipush (-6), 2) := by decide +kernel
theorem DX12_house_44 : decode jX12_house.2.1 44 = .ok (.invokevirtual 120, 3) := by decide +kernel
theorem DX12_house_47 : decode jX12_house.2.1 47 = .ok (.ireturn, 1) := by decide +kernel
theorem DX12_house_48 : decode jX12_house.2.1 48 = .ok (.aload_n 0, 1) := by decide +kernel
theorem DX12_house_49 : decode jX12_house.2.1 49 = .ok (.getfield 16, 3) := by decide +kernel
theorem DX12_house_52 : decode jX12_house.2.1 52 = .ok (.aload_n 0, 1) := by decide +kernel
theorem DX12_house_53 : decode jX12_house.2.1 53 = .ok (.getfield 144, 3) := by decide +kernel
theorem DX12_house_56 : decode jX12_house.2.1 56 = .ok (.iload_n 1, 1) := by decide +kernel
theorem DX12_house_57 : decode jX12_house.2.1 57 = .ok (.iastore, 1) := by decide +kernel
theorem DX12_house_58 : decode jX12_house.2.1 58 = .ok (.aload_n 0, 1) := by decide +kernel
theorem DX12_house_59 : decode jX12_house.2.1 59 = .ok (.getfield 19, 3) := by decide +kernel
theorem DX12_house_62 : decode jX12_house.2.1 62 = .ok (.aload_n 0, 1) := by decide +kernel
theorem DX12_house_63 : decode jX12_house.2.1 63 = .ok (.getfield 144, 3) := by decide +kernel
theorem DX12_house_66 : decode jX12_house.2.1 66 = .ok (.iload_n 2, 1) := by decide +kernel
theorem DX12_house_67 : decode jX12_house.2.1 67 = .ok (.iastore, 1) := by decide +kernel
theorem DX12_house_68 : decode jX12_house.2.1 68 = .ok (.aload_n 0, 1) := by decide +kernel
theorem DX12_house_69 : decode jX12_house.2.1 69 = .ok (.getfield 22, 3) := by decide +kernel
theorem DX12_house_72 : decode jX12_house.2.1 72 = .ok (.aload_n 0, 1) := by decide +kernel
theorem DX12_house_73 : decode jX12_house.2.1 73 = .ok (.getfield 144, 3) := by decide +kernel
theorem DX12_house_76 : decode jX12_house.2.1 76 = .ok (.iconst 5, 1) := by decide +kernel
theorem DX12_house_77 : decode jX12_house.2.1 77 = .ok (.iastore, 1) := by decide +kernel
theorem DX12_house_78 : decode jX12_house.2.1 78 = .ok (.aload_n 0, 1) := by decide +kernel
theorem DX12_house_79 : decode jX12_house.2.1 79 = .ok (.getfield 37, 3) := by decide +kernel
theorem DX12_house_82 : decode jX12_house.2.1 82 = .ok (.aload_n 0, 1) := by decide +kernel
theorem DX12_house_83 : decode jX12_house.2.1 83 = .ok (.getfield 144, 3) := by decide +kernel
theorem DX12_house_86 : decode jX12_house.2.1 86 = .ok (.iconst 1, 1) := by decide +kernel
theorem DX12_house_87 : decode jX12_house.2.1 87 = .ok (.bastore, 1) := by decide +kernel
theorem DX12_house_88 : decode jX12_house.2.1 88 = .ok (.aload_n 0, 1) := by decide +kernel
theorem DX12_house_89 : decode jX12_house.2.1 89 = .ok (.dup, 1) := by decide +kernel
theorem DX12_house_90 : decode jX12_house.2.1 90 = .ok (.getfield 144, 3) := by decide +kernel
theorem DX12_house_93 : decode jX12_house.2.1 93 = .ok (.iconst 1, 1) := by decide +kernel
theorem DX12_house_94 : decode jX12_house.2.1 94 = .ok (.iadd, 1) := by decide +kernel
theorem DX12_house_95 : decode jX12_house.2.1 95 = .ok (.putfield 144, 3) := by decide +kernel
theorem DX12_house_98 : decode jX12_house.2.1 98 = .ok (.aload_n 0, 1) := by decide +kernel
theorem DX12_house_99 : decode jX12_house.2.1 99 = .ok (.getfield 144, 3) := by decide +kernel
theorem DX12_house_102 : decode jX12_house.2.1 102 = .ok (.iconst 1, 1) := by decide +kernel
theorem DX12_house_103 : decode jX12_house.2.1 103 = .ok (.isub, 1) := by decide +kernel
theorem DX12_house_104 : decode jX12_house.2.1 104 = .ok (.ireturn, 1) := by decide +kernel
theorem DX12_set_0 : decode jX12_set.2.1 0 = .ok (.aload_n 0, 1) := by decide +kernel
theorem DX12_set_1 : decode jX12_set.2.1 1 = .ok (.iload_n 1, 1) := by decide +kernel
theorem DX12_set_2 : decode jX12_set.2.1 2 = .ok (.invokevirtual 148, 3) := by decide +kernel
theorem DX12_set_5 : decode jX12_set.2.1 5 = .ok (.ifCond .ne 7, 3) := by decide +kernel
theorem DX12_set_8 : decode jX12_set.2.1 8 = .ok (.iconst (-1), 1) := by decide +kernel
theorem DX12_set_9 : decode jX12_set.2.1 9 = .ok (.goto 41, 3) := by decide +kernel
theorem DX12_set_12 : decode jX12_set.2.1 12 = .ok (.iload_n 2, 1) := by decide +kernel
theorem DX12_set_13 : decode jX12_set.2.1 13 = .ok (.iconst 3, 1) := by decide +kernel
theorem DX12_set_14 : decode jX12_set.2.1 14 = .ok (.invokestatic 124, 3) := by decide +kernel
theorem DX12_set_17 : decode jX12_set.2.1 17 = .ok (.ifCond .ne 8, 3) := by decide +kernel
theorem DX12_set_20 : decode jX12_set.2.1 20 = .ok (.bipush (-2), 2) := by decide +kernel
theorem DX12_set_22 : decode jX12_set.2.1 22 = .ok (.goto 28, 3) := by decide +kernel
theorem DX12_set_25 : decode jX12_set.2.1 25 = .ok (.iload_n 3, 1) := by decide +kernel
theorem DX12_set_26 : decode jX12_set.2.1 26 = .ok (.iload_n 2, 1) := by decide +kernel
theorem DX12_set_27 : decode jX12_set.2.1 27 = .ok (.iconst 2, 1) := by decide +kernel
theorem DX12_set_28 : decode jX12_set.2.1 28 = .ok (.if_icmp .ne 7, 3) := by decide +kernel
theorem DX12_set_31 : decode jX12_set.2.1 31 = .ok (.iconst 0, 1) := by decide +kernel
theorem DX12_set_32 : decode jX12_set.2.1 32 = .ok (.goto 4, 3) := by decide +kernel
theorem DX12_set_35 : decode jX12_set.2.1 35 = .ok (.iconst 1, 1) := by decide +kernel
theorem DX12_set_36 : decode jX12_set.2.1 36 = .ok (.iload_n 2, 1) := by decide +kernel
theorem DX12_set_37 : decode jX12_set.2.1 37 = .ok (.iconst 2, 1) := by decide +kernel
theorem DX12_set_38 : decode jX12_set.2.1 38 = .ok (.if_icmp .ne 7, 3) := by decide +kernel
theorem DX12_set_41 : decode jX12_set.2.1 41 = .ok (.iconst 1, 1) := by decide +kernel
theorem DX12_set_42 : decode jX12_set.2.1 42 = .ok (.goto 5, 3) := by decide +kernel
theorem DX12_set_45 : decode jX12_set.2.1 45 = .ok (.bipush 9, 2) := by decide +kernel
theorem DX12_set_47 : decode jX12_set.2.1 47 = .ok (.invokestatic 128, 3) := by decide +kernel
theorem DX12_set_50 : decode jX12_set.2.1 50 = .ok (.istore 4, 2) := by decide +kernel
theorem DX12_set_52 : decode jX12_set.2.1 52 = .ok (.iload 4, 2) := by decide +kernel
theorem DX12_set_54 : decode jX12_set.2.1 54 = .ok (.ifCond .eq 10, 3) := by decide +kernel
theorem DX12_set_57 : decode jX12_set.2.1 57 = .ok (.aload_n 0, 1) := by decide +kernel
theorem DX12_set_58 : decode jX12_set.2.1 58 = .ok (.iload 4, 2) := by decide +kernel
theorem DX12_set_60 : decode jX12_set.2.1 60 = .ok (.invokevirtual 120, 3) := by decide +kernel
theorem DX12_set_63 : decode jX12_set.2.1 63 = .ok (.ireturn, 1) := by decide +kernel
theorem DX12_set_64 : decode jX12_set.2.1 64 = .ok (.iload_n 2, 1) := by decide +kernel
theorem DX12_set_65 : decode jX12_set.2.1 65 = .ok (.ifCond .ne 12, 3) := by decide +kernel
theorem DX12_set_68 : decode jX12_set.2.1 68 = .ok (.aload_n 0, 1) := by decide +kernel
theorem DX12_set_69 : decode jX12_set.2.1 69 = .ok (.getfield 19, 3) := by decide +kernel
theorem DX12_set_72 : decode jX12_set.2.1 72 = .ok (.iload_n 1, 1) := by decide +kernel
theorem DX12_set_73 : decode jX12_set.2.1 73 = .ok (.iaload, 1) := by decide +kernel
theorem DX12_set_74 : decode jX12_set.2.1 74 = .ok (.goto 31, 3) := by decide +kernel
theorem DX12_set_77 : decode jX12_set.2.1 77 = .ok (.iload_n 2, 1) := by decide +kernel
theorem DX12_set_78 : decode jX12_set.2.1 78 = .ok (.iconst 1, 1) := by decide +kernel
theorem DX12_set_79 : decode jX12_set.2.1 79 = .ok (.if_icmp .ne 12, 3) := by decide +kernel
theorem DX12_set_82 : decode jX12_set.2.1 82 = .ok (.aload_n 0, 1) := by decide +kernel
theorem DX12_set_83 : decode jX12_set.2.1 83 = .ok (.getfield 22, 3) := by decide +kernel
theorem DX12_set_86 : decode jX12_set.2.1 86 = .ok (.iload_n 1, 1) := by decide +kernel
theorem DX12_set_87 : decode jX12_set.2.1 87 = .ok (.iaload, 1) := by decide +kernel
theorem DX12_set_88 : decode jX12_set.2.1 88 = .ok (.goto 17, 3) := by decide +kernel
theorem DX12_set_91 : decode jX12_set.2.1 91 = .ok (.aload_n 0, 1) := by decide +kernel
theorem DX12_set_92 : decode jX12_set.2.1 92 = .ok (.getfield 37, 3) := by decide +kernel
theorem DX12_set_95 : decode jX12_set.2.1 95 = .ok (.iload_n 1, 1) := by decide +kernel
theorem DX12_set_96 : decode jX12_set.2.1 96 = .ok (.baload, 1) := by decide +kernel
theorem DX12_set_97 : decode jX12_set.2.1 97 = .ok (.ifCond .eq 7, 3) := by decide +kernel
theorem DX12_set_100 : decode jX12_set.2.1 100 = .ok (.iconst 1, 1) := by decide +kernel
theorem DX12_set_101 : decode jX12_set.2.1 101 = .ok (.goto 4, 3) := by decide +kernel
theorem DX12_set_104 : decode jX12_set.2.1 104 = .ok (.iconst 0, 1) := by decide +kernel
theorem DX12_set_105 : decode jX12_set.2.1 105 = .ok (.istore 5, 2) := by decide +kernel
theorem DX12_set_107 : decode jX12_set.2.1 107 = .ok (.iload_n 2, 1) := by decide +kernel
theorem DX12_set_108 : decode jX12_set.2.1 108 = .ok (.ifCond .ne 13, 3) := by decide +kernel
theorem DX12_set_111 : decode jX12_set.2.1 111 = .ok (.aload_n 0, 1) := by decide +kernel
theorem DX12_set_112 : decode jX12_set.2.1 112 = .ok (.getfield 19, 3) := by decide +kernel
theorem DX12_set_115 : decode jX12_set.2.1 115 = .ok (.iload_n 1, 1) := by decide +kernel
theorem DX12_set_116 : decode jX12_set.2.1 116 = .ok (.iload_n 3, 1) := by decide +kernel
theorem DX12_set_117 : decode jX12_set.2.1 117 = .ok (.iastore, 1) := by decide +kernel
theorem DX12_set_118 : decode jX12_set.2.1 118 = .ok (.goto 34, 3) := by decide +kernel
theorem DX12_set_121 : decode jX12_set.2.1 121 = .ok (.iload_n 2, 1) := by decide +kernel
theorem DX12_set_122 : decode jX12_set.2.1 122 = .ok (.iconst 1, 1) := by decide +kernel
theorem DX12_set_123 : decode jX12_set.2.1 123 = .ok (.if_icmp .ne 13, 3) := by decide +kernel
theorem DX12_set_126 : decode jX12_set.2.1 126 = .ok (.aload_n 0, 1) := by decide +kernel
theorem DX12_set_127 : decode jX12_set.2.1 127 = .ok (.getfield 22, 3) := by decide +kernel
theorem DX12_set_130 : decode jX12_set.2.1 130 = .ok (.iload_n 1, 1) := by decide +kernel
theorem DX12_set_131 : decode jX12_set.2.1 131 = .ok (.iload_n 3, 1) := by decide +kernel
theorem DX12_set_132 : decode jX12_set.2.1 132 = .ok (.iastore, 1) := by decide +kernel
theorem DX12_set_133 : decode jX12_set.2.1 133 = .ok (.goto 19, 3) := by decide +kernel
theorem DX12_set_136 : decode jX12_set.2.1 136 = .ok (.aload_n 0, 1) := by decide +kernel
theorem DX12_set_137 : decode jX12_set.2.1 137 = .ok (.getfield 37, 3) := by decide +kernel
theorem DX12_set_140 : decode jX12_set.2.1 140 = .ok (.iload_n 1, 1) := by decide +kernel
theorem DX12_set_141 : decode jX12_set.2.1 141 = .ok (.iload_n 3, 1) := by decide +kernel
theorem DX12_set_142 : decode jX12_set.2.1 142 = .ok (.iconst 1, 1) := by decide +kernel
theorem DX12_set_143 : decode jX12_set.2.1 143 = .ok (.if_icmp .ne 7, 3) := by decide +kernel
theorem DX12_set_146 : decode jX12_set.2.1 146 = .ok (.iconst 1, 1) := by decide +kernel
theorem DX12_set_147 : decode jX12_set.2.1 147 = .ok (.goto 4, 3) := by decide +kernel
theorem DX12_set_150 : decode jX12_set.2.1 150 = .ok (.iconst 0, 1) := by decide +kernel
theorem DX12_set_151 : decode jX12_set.2.1 151 = .ok (.bastore, 1) := by decide +kernel
theorem DX12_set_152 : decode jX12_set.2.1 152 = .ok (.iload 5, 2) := by decide +kernel
theorem DX12_set_154 : decode jX12_set.2.1 154 = .ok (.ireturn, 1) := by decide +kernel
theorem DX12_shareOf_0 : decode jX12_shareOf.2.1 0 = .ok (.aload_n 0, 1) := by decide +kernel
theorem DX12_shareOf_1 : decode jX12_shareOf.2.1 1 = .ok (.getfield 37, 3) := by decide +kernel
theorem DX12_shareOf_4 : decode jX12_shareOf.2.1 4 = .ok (.iload_n 1, 1) := by decide +kernel
theorem DX12_shareOf_5 : decode jX12_shareOf.2.1 5 = .ok (.baload, 1) := by decide +kernel
theorem DX12_shareOf_6 : decode jX12_shareOf.2.1 6 = .ok (.ifCond .ne 5, 3) := by decide +kernel
theorem DX12_shareOf_9 : decode jX12_shareOf.2.1 9 = .ok (.iconst 0, 1) := by decide +kernel
theorem DX12_shareOf_10 : decode jX12_shareOf.2.1 10 = .ok (.ireturn, 1) := by decide +kernel
theorem DX12_shareOf_11 : decode jX12_shareOf.2.1 11 = .ok (.aload_n 0, 1) := by decide +kernel
theorem DX12_shareOf_12 : decode jX12_shareOf.2.1 12 = .ok (.invokevirtual 155, 3) := by decide +kernel
theorem DX12_shareOf_15 : decode jX12_shareOf.2.1 15 = .ok (.istore_n 2, 1) := by decide +kernel
theorem DX12_shareOf_16 : decode jX12_shareOf.2.1 16 = .ok (.aload_n 0, 1) := by decide +kernel
theorem DX12_shareOf_17 : decode jX12_shareOf.2.1 17 = .ok (.getfield 152, 3) := by decide +kernel
theorem DX12_shareOf_20 : decode jX12_shareOf.2.1 20 = .ok (.istore_n 3, 1) := by decide +kernel
theorem DX12_shareOf_21 : decode jX12_shareOf.2.1 21 = .ok (.iconst 0, 1) := by decide +kernel
theorem DX12_shareOf_22 : decode jX12_shareOf.2.1 22 = .ok (.istore 4, 2) := by decide +kernel
theorem DX12_shareOf_24 : decode jX12_shareOf.2.1 24 = .ok (.iconst 0, 1) := by decide +kernel
theorem DX12_shareOf_25 : decode jX12_shareOf.2.1 25 = .ok (.istore 5, 2) := by decide +kernel
theorem DX12_shareOf_27 : decode jX12_shareOf.2.1 27 = .ok (.iload 5, 2) := by decide +kernel
theorem DX12_shareOf_29 : decode jX12_shareOf.2.1 29 = .ok (.aload_n 0, 1) := by decide +kernel
theorem DX12_shareOf_30 : decode jX12_shareOf.2.1 30 = .ok (.getfield 144, 3) := by decide +kernel
theorem DX12_shareOf_33 : decode jX12_shareOf.2.1 33 = .ok (.if_icmp .ge 87, 3) := by decide +kernel
theorem DX12_shareOf_36 : decode jX12_shareOf.2.1 36 = .ok (.aload_n 0, 1) := by decide +kernel
theorem DX12_shareOf_37 : decode jX12_shareOf.2.1 37 = .ok (.getfield 37, 3) := by decide +kernel
theorem DX12_shareOf_40 : decode jX12_shareOf.2.1 40 = .ok (.iload 5, 2) := by decide +kernel
theorem DX12_shareOf_42 : decode jX12_shareOf.2.1 42 = .ok (.baload, 1) := by decide +kernel
theorem DX12_shareOf_43 : decode jX12_shareOf.2.1 43 = .ok (.ifCond .ne 6, 3) := by decide +kernel
theorem DX12_shareOf_46 : decode jX12_shareOf.2.1 46 = .ok (.goto 68, 3) := by decide +kernel
theorem DX12_shareOf_49 : decode jX12_shareOf.2.1 49 = .ok (.iload_n 3, 1) := by decide +kernel
theorem DX12_shareOf_50 : decode jX12_shareOf.2.1 50 = .ok (.aload_n 0, 1) := by decide +kernel
theorem DX12_shareOf_51 : decode jX12_shareOf.2.1 51 = .ok (.getfield 152, 3) := by decide +kernel
theorem DX12_shareOf_54 : decode jX12_shareOf.2.1 54 = .ok (.aload_n 0, 1) := by decide +kernel
theorem DX12_shareOf_55 : decode jX12_shareOf.2.1 55 = .ok (.getfield 19, 3) := by decide +kernel
theorem DX12_shareOf_58 : decode jX12_shareOf.2.1 58 = .ok (.iload 5, 2) := by decide +kernel
theorem DX12_shareOf_60 : decode jX12_shareOf.2.1 60 = .ok (.iaload, 1) := by decide +kernel
theorem DX12_shareOf_61 : decode jX12_shareOf.2.1 61 = .ok (.imul, 1) := by decide +kernel
theorem DX12_shareOf_62 : decode jX12_shareOf.2.1 62 = .ok (.iload_n 2, 1) := by decide +kernel
theorem DX12_shareOf_63 : decode jX12_shareOf.2.1 63 = .ok (.idiv, 1) := by decide +kernel
theorem DX12_shareOf_64 : decode jX12_shareOf.2.1 64 = .ok (.isub, 1) := by decide +kernel
theorem DX12_shareOf_65 : decode jX12_shareOf.2.1 65 = .ok (.istore_n 3, 1) := by decide +kernel
theorem DX12_shareOf_66 : decode jX12_shareOf.2.1 66 = .ok (.iload 4, 2) := by decide +kernel
theorem DX12_shareOf_68 : decode jX12_shareOf.2.1 68 = .ok (.aload_n 0, 1) := by decide +kernel
theorem DX12_shareOf_69 : decode jX12_shareOf.2.1 69 = .ok (.getfield 34, 3) := by decide +kernel
theorem DX12_shareOf_72 : decode jX12_shareOf.2.1 72 = .ok (.iload 5, 2) := by decide +kernel
theorem DX12_shareOf_74 : decode jX12_shareOf.2.1 74 = .ok (.iaload, 1) := by decide +kernel
theorem DX12_shareOf_75 : decode jX12_shareOf.2.1 75 = .ok (.aload_n 0, 1) := by decide +kernel
theorem DX12_shareOf_76 : decode jX12_shareOf.2.1 76 = .ok (.getfield 34, 3) := by decide +kernel
theorem DX12_shareOf_79 : decode jX12_shareOf.2.1 79 = .ok (.iload_n 1, 1) := by decide +kernel
theorem DX12_shareOf_80 : decode jX12_shareOf.2.1 80 = .ok (.iaload, 1) := by decide +kernel
theorem DX12_shareOf_81 : decode jX12_shareOf.2.1 81 = .ok (.if_icmp .gt 25, 3) := by decide +kernel
theorem DX12_shareOf_84 : decode jX12_shareOf.2.1 84 = .ok (.aload_n 0, 1) := by decide +kernel
theorem DX12_shareOf_85 : decode jX12_shareOf.2.1 85 = .ok (.getfield 34, 3) := by decide +kernel
theorem DX12_shareOf_88 : decode jX12_shareOf.2.1 88 = .ok (.iload 5, 2) := by decide +kernel
theorem DX12_shareOf_90 : decode jX12_shareOf.2.1 90 = .ok (.iaload, 1) := by decide +kernel
theorem DX12_shareOf_91 : decode jX12_shareOf.2.1 91 = .ok (.aload_n 0, 1) := by decide +kernel
theorem DX12_shareOf_92 : decode jX12_shareOf.2.1 92 = .ok (.getfield 34, 3) := by decide +kernel
theorem DX12_shareOf_95 : decode jX12_shareOf.2.1 95 = .ok (.iload_n 1, 1) := by decide +kernel
theorem DX12_shareOf_96 : decode jX12_shareOf.2.1 96 = .ok (.iaload, 1) := by decide +kernel
theorem DX12_shareOf_97 : decode jX12_shareOf.2.1 97 = .ok (.if_icmp .ne 13, 3) := by decide +kernel
theorem DX12_shareOf_100 : decode jX12_shareOf.2.1 100 = .ok (.iload 5, 2) := by decide +kernel
theorem DX12_shareOf_102 : decode jX12_shareOf.2.1 102 = .ok (.iload_n 1, 1) := by decide +kernel
theorem DX12_shareOf_103 : decode jX12_shareOf.2.1 103 = .ok (.if_icmp .ge 7, 3) := by decide +kernel
theorem DX12_shareOf_106 : decode jX12_shareOf.2.1 106 = .ok (.iconst 1, 1) := by decide +kernel
theorem DX12_shareOf_107 : decode jX12_shareOf.2.1 107 = .ok (.goto 4, 3) := by decide +kernel
theorem DX12_shareOf_110 : decode jX12_shareOf.2.1 110 = .ok (.iconst 0, 1) := by decide +kernel
theorem DX12_shareOf_111 : decode jX12_shareOf.2.1 111 = .ok (.iadd, 1) := by decide +kernel
theorem DX12_shareOf_112 : decode jX12_shareOf.2.1 112 = .ok (.istore 4, 2) := by decide +kernel
theorem DX12_shareOf_114 : decode jX12_shareOf.2.1 114 = .ok (.iinc 5 1, 3) := by decide +kernel
theorem DX12_shareOf_117 : decode jX12_shareOf.2.1 117 = .ok (.goto (-90), 3) := by decide +kernel
theorem DX12_shareOf_120 : decode jX12_shareOf.2.1 120 = .ok (.aload_n 0, 1) := by decide +kernel
theorem DX12_shareOf_121 : decode jX12_shareOf.2.1 121 = .ok (.getfield 152, 3) := by decide +kernel
theorem DX12_shareOf_124 : decode jX12_shareOf.2.1 124 = .ok (.aload_n 0, 1) := by decide +kernel
theorem DX12_shareOf_125 : decode jX12_shareOf.2.1 125 = .ok (.getfield 19, 3) := by decide +kernel
theorem DX12_shareOf_128 : decode jX12_shareOf.2.1 128 = .ok (.iload_n 1, 1) := by decide +kernel
theorem DX12_shareOf_129 : decode jX12_shareOf.2.1 129 = .ok (.iaload, 1) := by decide +kernel
theorem DX12_shareOf_130 : decode jX12_shareOf.2.1 130 = .ok (.imul, 1) := by decide +kernel
theorem DX12_shareOf_131 : decode jX12_shareOf.2.1 131 = .ok (.iload_n 2, 1) := by decide +kernel
theorem DX12_shareOf_132 : decode jX12_shareOf.2.1 132 = .ok (.idiv, 1) := by decide +kernel
theorem DX12_shareOf_133 : decode jX12_shareOf.2.1 133 = .ok (.iload 4, 2) := by decide +kernel
theorem DX12_shareOf_135 : decode jX12_shareOf.2.1 135 = .ok (.iload_n 3, 1) := by decide +kernel
theorem DX12_shareOf_136 : decode jX12_shareOf.2.1 136 = .ok (.if_icmp .ge 7, 3) := by decide +kernel
theorem DX12_shareOf_139 : decode jX12_shareOf.2.1 139 = .ok (.iconst 1, 1) := by decide +kernel
theorem DX12_shareOf_140 : decode jX12_shareOf.2.1 140 = .ok (.goto 4, 3) := by decide +kernel
theorem DX12_shareOf_143 : decode jX12_shareOf.2.1 143 = .ok (.iconst 0, 1) := by decide +kernel
theorem DX12_shareOf_144 : decode jX12_shareOf.2.1 144 = .ok (.iadd, 1) := by decide +kernel
theorem DX12_shareOf_145 : decode jX12_shareOf.2.1 145 = .ok (.ireturn, 1) := by decide +kernel
theorem DX12_share_0 : decode jX12_share.2.1 0 = .ok (.aload_n 0, 1) := by decide +kernel
theorem DX12_share_1 : decode jX12_share.2.1 1 = .ok (.iload_n 1, 1) := by decide +kernel
theorem DX12_share_2 : decode jX12_share.2.1 2 = .ok (.invokevirtual 148, 3) := by decide +kernel
theorem DX12_share_5 : decode jX12_share.2.1 5 = .ok (.ifCond .eq 11, 3) := by decide +kernel
theorem DX12_share_8 : decode jX12_share.2.1 8 = .ok (.aload_n 0, 1) := by decide +kernel
theorem DX12_share_9 : decode jX12_share.2.1 9 = .ok (.iload_n 1, 1) := by decide +kernel
theorem DX12_share_10 : decode jX12_share.2.1 10 = .ok (.invokevirtual 159, 3) := by decide +kernel
theorem DX12_share_13 : decode jX12_share.2.1 13 = .ok (.goto 8, 3) := by decide +kernel
theorem DX12_share_16 : decode jX12_share.2.1 16 = .ok (.aload_n 0, 1) := by decide +kernel
theorem DX12_share_17 : decode jX12_share.2.1 17 = .ok (.iconst (-1), 1) := by decide +kernel
theorem DX12_share_18 : decode jX12_share.2.1 18 = .ok (.invokevirtual 120, 3) := by decide +kernel
theorem DX12_share_21 : decode jX12_share.2.1 21 = .ok (.ireturn, 1) := by decide +kernel
theorem DX12_owed_0 : decode jX12_owed.2.1 0 = .ok (.aload_n 0, 1) := by decide +kernel
theorem DX12_owed_1 : decode jX12_owed.2.1 1 = .ok (.iload_n 1, 1) := by decide +kernel
theorem DX12_owed_2 : decode jX12_owed.2.1 2 = .ok (.invokevirtual 148, 3) := by decide +kernel
theorem DX12_owed_5 : decode jX12_owed.2.1 5 = .ok (.ifCond .eq 12, 3) := by decide +kernel
theorem DX12_owed_8 : decode jX12_owed.2.1 8 = .ok (.aload_n 0, 1) := by decide +kernel
theorem DX12_owed_9 : decode jX12_owed.2.1 9 = .ok (.getfield 34, 3) := by decide +kernel
theorem DX12_owed_12 : decode jX12_owed.2.1 12 = .ok (.iload_n 1, 1) := by decide +kernel
theorem DX12_owed_13 : decode jX12_owed.2.1 13 = .ok (.iaload, 1) := by decide +kernel
theorem DX12_owed_14 : decode jX12_owed.2.1 14 = .ok (.goto 8, 3) := by decide +kernel
theorem DX12_owed_17 : decode jX12_owed.2.1 17 = .ok (.aload_n 0, 1) := by decide +kernel
theorem DX12_owed_18 : decode jX12_owed.2.1 18 = .ok (.iconst (-1), 1) := by decide +kernel
theorem DX12_owed_19 : decode jX12_owed.2.1 19 = .ok (.invokevirtual 132, 3) := by decide +kernel
theorem DX12_owed_22 : decode jX12_owed.2.1 22 = .ok (.ireturn, 1) := by decide +kernel
theorem DX12_isRope_0 : decode jX12_isRope.2.1 0 = .ok (.iload_n 1, 1) := by decide +kernel
theorem DX12_isRope_1 : decode jX12_isRope.2.1 1 = .ok (.aload_n 0, 1) := by decide +kernel
theorem DX12_isRope_2 : decode jX12_isRope.2.1 2 = .ok (.getfield 168, 3) := by decide +kernel
theorem DX12_isRope_5 : decode jX12_isRope.2.1 5 = .ok (.invokestatic 124, 3) := by decide +kernel
theorem DX12_isRope_8 : decode jX12_isRope.2.1 8 = .ok (.ireturn, 1) := by decide +kernel
theorem DX12_isFree_0 : decode jX12_isFree.2.1 0 = .ok (.aload_n 0, 1) := by decide +kernel
theorem DX12_isFree_1 : decode jX12_isFree.2.1 1 = .ok (.getfield 62, 3) := by decide +kernel
theorem DX12_isFree_4 : decode jX12_isFree.2.1 4 = .ok (.iload_n 1, 1) := by decide +kernel
theorem DX12_isFree_5 : decode jX12_isFree.2.1 5 = .ok (.baload, 1) := by decide +kernel
theorem DX12_isFree_6 : decode jX12_isFree.2.1 6 = .ok (.ifCond .ne 20, 3) := by decide +kernel
theorem DX12_isFree_9 : decode jX12_isFree.2.1 9 = .ok (.aload_n 0, 1) := by decide +kernel
theorem DX12_isFree_10 : decode jX12_isFree.2.1 10 = .ok (.getfield 50, 3) := by decide +kernel
theorem DX12_isFree_13 : decode jX12_isFree.2.1 13 = .ok (.iload_n 1, 1) := by decide +kernel
theorem DX12_isFree_14 : decode jX12_isFree.2.1 14 = .ok (.iaload, 1) := by decide +kernel
theorem DX12_isFree_15 : decode jX12_isFree.2.1 15 = .ok (.aload_n 0, 1) := by decide +kernel
theorem DX12_isFree_16 : decode jX12_isFree.2.1 16 = .ok (.getfield 162, 3) := by decide +kernel
theorem DX12_isFree_19 : decode jX12_isFree.2.1 19 = .ok (.if_icmp .ne 7, 3) := by decide +kernel
theorem DX12_isFree_22 : decode jX12_isFree.2.1 22 = .ok (.iconst 1, 1) := by decide +kernel
theorem DX12_isFree_23 : decode jX12_isFree.2.1 23 = .ok (.goto 4, 3) := by decide +kernel
theorem DX12_isFree_26 : decode jX12_isFree.2.1 26 = .ok (.iconst 0, 1) := by decide +kernel
theorem DX12_isFree_27 : decode jX12_isFree.2.1 27 = .ok (.ireturn, 1) := by decide +kernel
theorem DX12_same_0 : decode jX12_same.2.1 0 = .ok (.iload_n 0, 1) := by decide +kernel
theorem DX12_same_1 : decode jX12_same.2.1 1 = .ok (.iload_n 3, 1) := by decide +kernel
theorem DX12_same_2 : decode jX12_same.2.1 2 = .ok (.if_icmp .ne 7, 3) := by decide +kernel
theorem DX12_same_5 : decode jX12_same.2.1 5 = .ok (.iconst 1, 1) := by decide +kernel
theorem DX12_same_6 : decode jX12_same.2.1 6 = .ok (.goto 4, 3) := by decide +kernel
theorem DX12_same_9 : decode jX12_same.2.1 9 = .ok (.iconst 0, 1) := by decide +kernel
theorem DX12_same_10 : decode jX12_same.2.1 10 = .ok (.iload_n 1, 1) := by decide +kernel
theorem DX12_same_11 : decode jX12_same.2.1 11 = .ok (.iload_n 3, 1) := by decide +kernel
theorem DX12_same_12 : decode jX12_same.2.1 12 = .ok (.if_icmp .ne 7, 3) := by decide +kernel
theorem DX12_same_15 : decode jX12_same.2.1 15 = .ok (.iconst 1, 1) := by decide +kernel
theorem DX12_same_16 : decode jX12_same.2.1 16 = .ok (.goto 4, 3) := by decide +kernel
theorem DX12_same_19 : decode jX12_same.2.1 19 = .ok (.iconst 0, 1) := by decide +kernel
theorem DX12_same_20 : decode jX12_same.2.1 20 = .ok (.iadd, 1) := by decide +kernel
theorem DX12_same_21 : decode jX12_same.2.1 21 = .ok (.iload_n 2, 1) := by decide +kernel
theorem DX12_same_22 : decode jX12_same.2.1 22 = .ok (.iload_n 3, 1) := by decide +kernel
theorem DX12_same_23 : decode jX12_same.2.1 23 = .ok (.if_icmp .ne 7, 3) := by decide +kernel
theorem DX12_same_26 : decode jX12_same.2.1 26 = .ok (.iconst 1, 1) := by decide +kernel
theorem DX12_same_27 : decode jX12_same.2.1 27 = .ok (.goto 4, 3) := by decide +kernel
theorem DX12_same_30 : decode jX12_same.2.1 30 = .ok (.iconst 0, 1) := by decide +kernel
theorem DX12_same_31 : decode jX12_same.2.1 31 = .ok (.iadd, 1) := by decide +kernel
theorem DX12_same_32 : decode jX12_same.2.1 32 = .ok (.ireturn, 1) := by decide +kernel
theorem DX12_small_0 : decode jX12_small.2.1 0 = .ok (.aload_n 0, 1) := by decide +kernel
theorem DX12_small_1 : decode jX12_small.2.1 1 = .ok (.iload_n 1, 1) := by decide +kernel
theorem DX12_small_2 : decode jX12_small.2.1 2 = .ok (.invokevirtual 148, 3) := by decide +kernel
theorem DX12_small_5 : decode jX12_small.2.1 5 = .ok (.ifCond .eq 19, 3) := by decide +kernel
theorem DX12_small_8 : decode jX12_small.2.1 8 = .ok (.aload_n 0, 1) := by decide +kernel
theorem DX12_small_9 : decode jX12_small.2.1 9 = .ok (.iload_n 2, 1) := by decide +kernel
theorem DX12_small_10 : decode jX12_small.2.1 10 = .ok (.invokevirtual 148, 3) := by decide +kernel
theorem DX12_small_13 : decode jX12_small.2.1 13 = .ok (.ifCond .eq 11, 3) := by decide +kernel
theorem DX12_small_16 : decode jX12_small.2.1 16 = .ok (.aload_n 0, 1) := by decide +kernel
theorem DX12_small_17 : decode jX12_small.2.1 17 = .ok (.iload_n 3, 1) := by decide +kernel
theorem DX12_small_18 : decode jX12_small.2.1 18 = .ok (.invokevirtual 148, 3) := by decide +kernel
theorem DX12_small_21 : decode jX12_small.2.1 21 = .ok (.ifCond .ne 9, 3) := by decide +kernel
theorem DX12_small_24 : decode jX12_small.2.1 24 = .ok (.aload_n 0, 1) := by decide +kernel
theorem DX12_small_25 : decode jX12_small.2.1 25 = .ok (.iconst (-1), 1) := by decide +kernel
theorem DX12_small_26 : decode jX12_small.2.1 26 = .ok (.invokevirtual 120, 3) := by decide +kernel
theorem DX12_small_29 : decode jX12_small.2.1 29 = .ok (.ireturn, 1) := by decide +kernel
theorem DX12_small_30 : decode jX12_small.2.1 30 = .ok (.aload_n 0, 1) := by decide +kernel
theorem DX12_small_31 : decode jX12_small.2.1 31 = .ok (.iload_n 1, 1) := by decide +kernel
theorem DX12_small_32 : decode jX12_small.2.1 32 = .ok (.invokevirtual 171, 3) := by decide +kernel
theorem DX12_small_35 : decode jX12_small.2.1 35 = .ok (.iload_n 1, 1) := by decide +kernel
theorem DX12_small_36 : decode jX12_small.2.1 36 = .ok (.iload_n 2, 1) := by decide +kernel
theorem DX12_small_37 : decode jX12_small.2.1 37 = .ok (.iload_n 3, 1) := by decide +kernel
theorem DX12_small_38 : decode jX12_small.2.1 38 = .ok (.iload_n 1, 1) := by decide +kernel
theorem DX12_small_39 : decode jX12_small.2.1 39 = .ok (.invokestatic 174, 3) := by decide +kernel
theorem DX12_small_42 : decode jX12_small.2.1 42 = .ok (.if_icmp .lt 33, 3) := by decide +kernel
theorem DX12_small_45 : decode jX12_small.2.1 45 = .ok (.aload_n 0, 1) := by decide +kernel
theorem DX12_small_46 : decode jX12_small.2.1 46 = .ok (.iload_n 2, 1) := by decide +kernel
theorem DX12_small_47 : decode jX12_small.2.1 47 = .ok (.invokevirtual 171, 3) := by decide +kernel
theorem DX12_small_50 : decode jX12_small.2.1 50 = .ok (.iload_n 1, 1) := by decide +kernel
theorem DX12_small_51 : decode jX12_small.2.1 51 = .ok (.iload_n 2, 1) := by decide +kernel
theorem DX12_small_52 : decode jX12_small.2.1 52 = .ok (.iload_n 3, 1) := by decide +kernel
theorem DX12_small_53 : decode jX12_small.2.1 53 = .ok (.iload_n 2, 1) := by decide +kernel
theorem DX12_small_54 : decode jX12_small.2.1 54 = .ok (.invokestatic 174, 3) := by decide +kernel
theorem DX12_small_57 : decode jX12_small.2.1 57 = .ok (.if_icmp .lt 18, 3) := by decide +kernel
theorem DX12_small_60 : decode jX12_small.2.1 60 = .ok (.aload_n 0, 1) := by decide +kernel
theorem DX12_small_61 : decode jX12_small.2.1 61 = .ok (.iload_n 3, 1) := by decide +kernel
theorem DX12_small_62 : decode jX12_small.2.1 62 = .ok (.invokevirtual 171, 3) := by decide +kernel
theorem DX12_small_65 : decode jX12_small.2.1 65 = .ok (.iload_n 1, 1) := by decide +kernel
theorem DX12_small_66 : decode jX12_small.2.1 66 = .ok (.iload_n 2, 1) := by decide +kernel
theorem DX12_small_67 : decode jX12_small.2.1 67 = .ok (.iload_n 3, 1) := by decide +kernel
theorem DX12_small_68 : decode jX12_small.2.1 68 = .ok (.iload_n 3, 1) := by decide +kernel
theorem DX12_small_69 : decode jX12_small.2.1 69 = .ok (.invokestatic 174, 3) := by decide +kernel
theorem DX12_small_72 : decode jX12_small.2.1 72 = .ok (.if_icmp .ge 10, 3) := by decide +kernel
theorem DX12_small_75 : decode jX12_small.2.1 75 = .ok (.aload_n 0, 1) := by decide +kernel
theorem DX12_small_76 : decode jX12_small.2.1 76 = .ok (.bipush (-3), 2) := by decide +kernel
theorem DX12_small_78 : decode jX12_small.2.1 78 = .ok (.invokevirtual 120, 3) := by decide +kernel
theorem DX12_small_81 : decode jX12_small.2.1 81 = .ok (.ireturn, 1) := by decide +kernel
theorem DX12_small_82 : decode jX12_small.2.1 82 = .ok (.aload_n 0, 1) := by decide +kernel
theorem DX12_small_83 : decode jX12_small.2.1 83 = .ok (.getfield 168, 3) := by decide +kernel
theorem DX12_small_86 : decode jX12_small.2.1 86 = .ok (.sipush 200, 3) := by decide +kernel
theorem DX12_small_89 : decode jX12_small.2.1 89 = .ok (.if_icmp .ne 10, 3) := by decide +kernel
theorem DX12_small_92 : decode jX12_small.2.1 92 = .ok (.aload_n 0, 1) := by decide +kernel
theorem DX12_small_93 : decode jX12_small.2.1 93 = .ok (.bipush (-6), 2) := by decide +kernel
theorem DX12_small_95 : decode jX12_small.2.1 95 = .ok (.invokevirtual 120, 3) := by decide +kernel
theorem DX12_small_98 : decode jX12_small.2.1 98 = .ok (.ireturn, 1) := by decide +kernel
theorem DX12_small_99 : decode jX12_small.2.1 99 = .ok (.aload_n 0, 1) := by decide +kernel
theorem DX12_small_100 : decode jX12_small.2.1 100 = .ok (.getfield 31, 3) := by decide +kernel
theorem DX12_small_103 : decode jX12_small.2.1 103 = .ok (.iload_n 1, 1) := by decide +kernel
theorem DX12_small_104 : decode jX12_small.2.1 104 = .ok (.dup2, 1) := by decide +kernel
theorem DX12_small_105 : decode jX12_small.2.1 105 = .ok (.iaload, 1) := by decide +kernel
theorem DX12_small_106 : decode jX12_small.2.1 106 = .ok (.iconst 1, 1) := by decide +kernel
theorem DX12_small_107 : decode jX12_small.2.1 107 = .ok (.iadd, 1) := by decide +kernel
theorem DX12_small_108 : decode jX12_small.2.1 108 = .ok (.iastore, 1) := by decide +kernel
theorem DX12_small_109 : decode jX12_small.2.1 109 = .ok (.aload_n 0, 1) := by decide +kernel
theorem DX12_small_110 : decode jX12_small.2.1 110 = .ok (.getfield 31, 3) := by decide +kernel
theorem DX12_small_113 : decode jX12_small.2.1 113 = .ok (.iload_n 2, 1) := by decide +kernel
theorem DX12_small_114 : decode jX12_small.2.1 114 = .ok (.dup2, 1) := by decide +kernel
theorem DX12_small_115 : decode jX12_small.2.1 115 = .ok (.iaload, 1) := by decide +kernel
theorem DX12_small_116 : decode jX12_small.2.1 116 = .ok (.iconst 1, 1) := by decide +kernel
theorem DX12_small_117 : decode jX12_small.2.1 117 = .ok (.iadd, 1) := by decide +kernel
theorem DX12_small_118 : decode jX12_small.2.1 118 = .ok (.iastore, 1) := by decide +kernel
theorem DX12_small_119 : decode jX12_small.2.1 119 = .ok (.aload_n 0, 1) := by decide +kernel
theorem DX12_small_120 : decode jX12_small.2.1 120 = .ok (.getfield 31, 3) := by decide +kernel
theorem DX12_small_123 : decode jX12_small.2.1 123 = .ok (.iload_n 3, 1) := by decide +kernel
theorem DX12_small_124 : decode jX12_small.2.1 124 = .ok (.dup2, 1) := by decide +kernel
theorem DX12_small_125 : decode jX12_small.2.1 125 = .ok (.iaload, 1) := by decide +kernel
theorem DX12_small_126 : decode jX12_small.2.1 126 = .ok (.iconst 1, 1) := by decide +kernel
theorem DX12_small_127 : decode jX12_small.2.1 127 = .ok (.iadd, 1) := by decide +kernel
theorem DX12_small_128 : decode jX12_small.2.1 128 = .ok (.iastore, 1) := by decide +kernel
theorem DX12_small_129 : decode jX12_small.2.1 129 = .ok (.aload_n 0, 1) := by decide +kernel
theorem DX12_small_130 : decode jX12_small.2.1 130 = .ok (.getfield 59, 3) := by decide +kernel
theorem DX12_small_133 : decode jX12_small.2.1 133 = .ok (.iconst 3, 1) := by decide +kernel
theorem DX12_small_134 : decode jX12_small.2.1 134 = .ok (.aload_n 0, 1) := by decide +kernel
theorem DX12_small_135 : decode jX12_small.2.1 135 = .ok (.getfield 168, 3) := by decide +kernel
theorem DX12_small_138 : decode jX12_small.2.1 138 = .ok (.imul, 1) := by decide +kernel
theorem DX12_small_139 : decode jX12_small.2.1 139 = .ok (.aload_n 0, 1) := by decide +kernel
theorem DX12_small_140 : decode jX12_small.2.1 140 = .ok (.getfield 22, 3) := by decide +kernel
theorem DX12_small_143 : decode jX12_small.2.1 143 = .ok (.iload_n 1, 1) := by decide +kernel
theorem DX12_small_144 : decode jX12_small.2.1 144 = .ok (.iaload, 1) := by decide +kernel
theorem DX12_small_145 : decode jX12_small.2.1 145 = .ok (.iastore, 1) := by decide +kernel
theorem DX12_small_146 : decode jX12_small.2.1 146 = .ok (.aload_n 0, 1) := by decide +kernel
theorem DX12_small_147 : decode jX12_small.2.1 147 = .ok (.getfield 59, 3) := by decide +kernel
theorem DX12_small_150 : decode jX12_small.2.1 150 = .ok (.iconst 3, 1) := by decide +kernel
theorem DX12_small_151 : decode jX12_small.2.1 151 = .ok (.aload_n 0, 1) := by decide +kernel
theorem DX12_small_152 : decode jX12_small.2.1 152 = .ok (.getfield 168, 3) := by decide +kernel
theorem DX12_small_155 : decode jX12_small.2.1 155 = .ok (.imul, 1) := by decide +kernel
theorem DX12_small_156 : decode jX12_small.2.1 156 = .ok (.iconst 1, 1) := by decide +kernel
theorem DX12_small_157 : decode jX12_small.2.1 157 = .ok (.iadd, 1) := by decide +kernel
theorem DX12_small_158 : decode jX12_small.2.1 158 = .ok (.aload_n 0, 1) := by decide +kernel
theorem DX12_small_159 : decode jX12_small.2.1 159 = .ok (.getfield 22, 3) := by decide +kernel
theorem DX12_small_162 : decode jX12_small.2.1 162 = .ok (.iload_n 2, 1) := by decide +kernel
theorem DX12_small_163 : decode jX12_small.2.1 163 = .ok (.iaload, 1) := by decide +kernel
theorem DX12_small_164 : decode jX12_small.2.1 164 = .ok (.iastore, 1) := by decide +kernel
theorem DX12_small_165 : decode jX12_small.2.1 165 = .ok (.aload_n 0, 1) := by decide +kernel
theorem DX12_small_166 : decode jX12_small.2.1 166 = .ok (.getfield 59, 3) := by decide +kernel
theorem DX12_small_169 : decode jX12_small.2.1 169 = .ok (.iconst 3, 1) := by decide +kernel
theorem DX12_small_170 : decode jX12_small.2.1 170 = .ok (.aload_n 0, 1) := by decide +kernel
theorem DX12_small_171 : decode jX12_small.2.1 171 = .ok (.getfield 168, 3) := by decide +kernel
theorem DX12_small_174 : decode jX12_small.2.1 174 = .ok (.imul, 1) := by decide +kernel
theorem DX12_small_175 : decode jX12_small.2.1 175 = .ok (.iconst 2, 1) := by decide +kernel
theorem DX12_small_176 : decode jX12_small.2.1 176 = .ok (.iadd, 1) := by decide +kernel
theorem DX12_small_177 : decode jX12_small.2.1 177 = .ok (.aload_n 0, 1) := by decide +kernel
theorem DX12_small_178 : decode jX12_small.2.1 178 = .ok (.getfield 22, 3) := by decide +kernel
theorem DX12_small_181 : decode jX12_small.2.1 181 = .ok (.iload_n 3, 1) := by decide +kernel
theorem DX12_small_182 : decode jX12_small.2.1 182 = .ok (.iaload, 1) := by decide +kernel
theorem DX12_small_183 : decode jX12_small.2.1 183 = .ok (.iastore, 1) := by decide +kernel
theorem DX12_small_184 : decode jX12_small.2.1 184 = .ok (.aload_n 0, 1) := by decide +kernel
theorem DX12_small_185 : decode jX12_small.2.1 185 = .ok (.iconst 0, 1) := by decide +kernel
theorem DX12_small_186 : decode jX12_small.2.1 186 = .ok (.aload_n 0, 1) := by decide +kernel
theorem DX12_small_187 : decode jX12_small.2.1 187 = .ok (.getfield 22, 3) := by decide +kernel
theorem DX12_small_190 : decode jX12_small.2.1 190 = .ok (.iload_n 1, 1) := by decide +kernel
theorem DX12_small_191 : decode jX12_small.2.1 191 = .ok (.iaload, 1) := by decide +kernel
theorem DX12_small_192 : decode jX12_small.2.1 192 = .ok (.aload_n 0, 1) := by decide +kernel
theorem DX12_small_193 : decode jX12_small.2.1 193 = .ok (.getfield 22, 3) := by decide +kernel
theorem DX12_small_196 : decode jX12_small.2.1 196 = .ok (.iload_n 2, 1) := by decide +kernel
theorem DX12_small_197 : decode jX12_small.2.1 197 = .ok (.iaload, 1) := by decide +kernel
theorem DX12_small_198 : decode jX12_small.2.1 198 = .ok (.aload_n 0, 1) := by decide +kernel
theorem DX12_small_199 : decode jX12_small.2.1 199 = .ok (.getfield 22, 3) := by decide +kernel
theorem DX12_small_202 : decode jX12_small.2.1 202 = .ok (.iload_n 3, 1) := by decide +kernel
theorem DX12_small_203 : decode jX12_small.2.1 203 = .ok (.iaload, 1) := by decide +kernel
theorem DX12_small_204 : decode jX12_small.2.1 204 = .ok (.invokestatic 178, 3) := by decide +kernel
theorem DX12_small_207 : decode jX12_small.2.1 207 = .ok (.invokestatic 178, 3) := by decide +kernel
theorem DX12_small_210 : decode jX12_small.2.1 210 = .ok (.iload_n 1, 1) := by decide +kernel
theorem DX12_small_211 : decode jX12_small.2.1 211 = .ok (.iload_n 2, 1) := by decide +kernel
theorem DX12_small_212 : decode jX12_small.2.1 212 = .ok (.iload_n 3, 1) := by decide +kernel
theorem DX12_small_213 : decode jX12_small.2.1 213 = .ok (.invokevirtual 181, 3) := by decide +kernel
theorem DX12_small_216 : decode jX12_small.2.1 216 = .ok (.ireturn, 1) := by decide +kernel
theorem DX12_lay_0 : decode jX12_lay.2.1 0 = .ok (.aload_n 0, 1) := by decide +kernel
theorem DX12_lay_1 : decode jX12_lay.2.1 1 = .ok (.iload_n 1, 1) := by decide +kernel
theorem DX12_lay_2 : decode jX12_lay.2.1 2 = .ok (.invokevirtual 185, 3) := by decide +kernel
theorem DX12_lay_5 : decode jX12_lay.2.1 5 = .ok (.ifCond .eq 34, 3) := by decide +kernel
theorem DX12_lay_8 : decode jX12_lay.2.1 8 = .ok (.aload_n 0, 1) := by decide +kernel
theorem DX12_lay_9 : decode jX12_lay.2.1 9 = .ok (.iload_n 2, 1) := by decide +kernel
theorem DX12_lay_10 : decode jX12_lay.2.1 10 = .ok (.invokevirtual 185, 3) := by decide +kernel
theorem DX12_lay_13 : decode jX12_lay.2.1 13 = .ok (.ifCond .eq 26, 3) := by decide +kernel
theorem DX12_lay_16 : decode jX12_lay.2.1 16 = .ok (.aload_n 0, 1) := by decide +kernel
theorem DX12_lay_17 : decode jX12_lay.2.1 17 = .ok (.iload_n 3, 1) := by decide +kernel
theorem DX12_lay_18 : decode jX12_lay.2.1 18 = .ok (.invokevirtual 185, 3) := by decide +kernel
theorem DX12_lay_21 : decode jX12_lay.2.1 21 = .ok (.ifCond .eq 18, 3) := by decide +kernel
theorem DX12_lay_24 : decode jX12_lay.2.1 24 = .ok (.iload_n 1, 1) := by decide +kernel
theorem DX12_lay_25 : decode jX12_lay.2.1 25 = .ok (.iload_n 2, 1) := by decide +kernel
theorem DX12_lay_26 : decode jX12_lay.2.1 26 = .ok (.if_icmp .eq 13, 3) := by decide +kernel
theorem DX12_lay_29 : decode jX12_lay.2.1 29 = .ok (.iload_n 2, 1) := by decide +kernel
theorem DX12_lay_30 : decode jX12_lay.2.1 30 = .ok (.iload_n 3, 1) := by decide +kernel
theorem DX12_lay_31 : decode jX12_lay.2.1 31 = .ok (.if_icmp .eq 8, 3) := by decide +kernel
theorem DX12_lay_34 : decode jX12_lay.2.1 34 = .ok (.iload_n 1, 1) := by decide +kernel
theorem DX12_lay_35 : decode jX12_lay.2.1 35 = .ok (.iload_n 3, 1) := by decide +kernel
theorem DX12_lay_36 : decode jX12_lay.2.1 36 = .ok (.if_icmp .ne 9, 3) := by decide +kernel
theorem DX12_lay_39 : decode jX12_lay.2.1 39 = .ok (.aload_n 0, 1) := by decide +kernel
theorem DX12_lay_40 : decode jX12_lay.2.1 40 = .ok (.iconst (-1), 1) := by decide +kernel
theorem DX12_lay_41 : decode jX12_lay.2.1 41 = .ok (.invokevirtual 120, 3) := by decide +kernel
theorem DX12_lay_44 : decode jX12_lay.2.1 44 = .ok (.ireturn, 1) := by decide +kernel
theorem DX12_lay_45 : decode jX12_lay.2.1 45 = .ok (.aload_n 0, 1) := by decide +kernel
theorem DX12_lay_46 : decode jX12_lay.2.1 46 = .ok (.getfield 44, 3) := by decide +kernel
theorem DX12_lay_49 : decode jX12_lay.2.1 49 = .ok (.iload_n 1, 1) := by decide +kernel
theorem DX12_lay_50 : decode jX12_lay.2.1 50 = .ok (.iaload, 1) := by decide +kernel
theorem DX12_lay_51 : decode jX12_lay.2.1 51 = .ok (.aload_n 0, 1) := by decide +kernel
theorem DX12_lay_52 : decode jX12_lay.2.1 52 = .ok (.getfield 44, 3) := by decide +kernel
theorem DX12_lay_55 : decode jX12_lay.2.1 55 = .ok (.iload_n 2, 1) := by decide +kernel
theorem DX12_lay_56 : decode jX12_lay.2.1 56 = .ok (.iaload, 1) := by decide +kernel
theorem DX12_lay_57 : decode jX12_lay.2.1 57 = .ok (.if_icmp .ne 28, 3) := by decide +kernel
theorem DX12_lay_60 : decode jX12_lay.2.1 60 = .ok (.aload_n 0, 1) := by decide +kernel
theorem DX12_lay_61 : decode jX12_lay.2.1 61 = .ok (.getfield 44, 3) := by decide +kernel
theorem DX12_lay_64 : decode jX12_lay.2.1 64 = .ok (.iload_n 2, 1) := by decide +kernel
theorem DX12_lay_65 : decode jX12_lay.2.1 65 = .ok (.iaload, 1) := by decide +kernel
theorem DX12_lay_66 : decode jX12_lay.2.1 66 = .ok (.aload_n 0, 1) := by decide +kernel
theorem DX12_lay_67 : decode jX12_lay.2.1 67 = .ok (.getfield 44, 3) := by decide +kernel
theorem DX12_lay_70 : decode jX12_lay.2.1 70 = .ok (.iload_n 3, 1) := by decide +kernel
theorem DX12_lay_71 : decode jX12_lay.2.1 71 = .ok (.iaload, 1) := by decide +kernel
theorem DX12_lay_72 : decode jX12_lay.2.1 72 = .ok (.if_icmp .ne 13, 3) := by decide +kernel
theorem DX12_lay_75 : decode jX12_lay.2.1 75 = .ok (.aload_n 0, 1) := by decide +kernel
theorem DX12_lay_76 : decode jX12_lay.2.1 76 = .ok (.getfield 44, 3) := by decide +kernel
theorem DX12_lay_79 : decode jX12_lay.2.1 79 = .ok (.iload_n 1, 1) := by decide +kernel
theorem DX12_lay_80 : decode jX12_lay.2.1 80 = .ok (.iaload, 1) := by decide +kernel
theorem DX12_lay_81 : decode jX12_lay.2.1 81 = .ok (.iconst 2, 1) := by decide +kernel
theorem DX12_lay_82 : decode jX12_lay.2.1 82 = .ok (.if_icmp .ne 10, 3) := by decide +kernel
theorem DX12_lay_85 : decode jX12_lay.2.1 85 = .ok (.aload_n 0, 1) := by decide +kernel
theorem DX12_lay_86 : decode jX12_lay.2.1 86 = .ok (.bipush (-2), 2) := by decide +kernel
theorem DX12_lay_88 : decode jX12_lay.2.1 88 = .ok (.invokevirtual 120, 3) := by decide +kernel
theorem DX12_lay_91 : decode jX12_lay.2.1 91 = .ok (.ireturn, 1) := by decide +kernel
theorem DX12_lay_92 : decode jX12_lay.2.1 92 = .ok (.aload_n 0, 1) := by decide +kernel
theorem DX12_lay_93 : decode jX12_lay.2.1 93 = .ok (.iload_n 1, 1) := by decide +kernel
theorem DX12_lay_94 : decode jX12_lay.2.1 94 = .ok (.invokevirtual 188, 3) := by decide +kernel
theorem DX12_lay_97 : decode jX12_lay.2.1 97 = .ok (.ifCond .eq 19, 3) := by decide +kernel
theorem DX12_lay_100 : decode jX12_lay.2.1 100 = .ok (.aload_n 0, 1) := by decide +kernel
theorem DX12_lay_101 : decode jX12_lay.2.1 101 = .ok (.iload_n 2, 1) := by decide +kernel
theorem DX12_lay_102 : decode jX12_lay.2.1 102 = .ok (.invokevirtual 188, 3) := by decide +kernel
theorem DX12_lay_105 : decode jX12_lay.2.1 105 = .ok (.ifCond .eq 11, 3) := by decide +kernel
theorem DX12_lay_108 : decode jX12_lay.2.1 108 = .ok (.aload_n 0, 1) := by decide +kernel
theorem DX12_lay_109 : decode jX12_lay.2.1 109 = .ok (.iload_n 3, 1) := by decide +kernel
theorem DX12_lay_110 : decode jX12_lay.2.1 110 = .ok (.invokevirtual 188, 3) := by decide +kernel
theorem DX12_lay_113 : decode jX12_lay.2.1 113 = .ok (.ifCond .ne 10, 3) := by decide +kernel
theorem DX12_lay_116 : decode jX12_lay.2.1 116 = .ok (.aload_n 0, 1) := by decide +kernel
theorem DX12_lay_117 : decode jX12_lay.2.1 117 = .ok (.bipush (-3), 2) := by decide +kernel
theorem DX12_lay_119 : decode jX12_lay.2.1 119 = .ok (.invokevirtual 120, 3) := by decide +kernel
theorem DX12_lay_122 : decode jX12_lay.2.1 122 = .ok (.ireturn, 1) := by decide +kernel
theorem DX12_lay_123 : decode jX12_lay.2.1 123 = .ok (.aload_n 0, 1) := by decide +kernel
theorem DX12_lay_124 : decode jX12_lay.2.1 124 = .ok (.getfield 168, 3) := by decide +kernel
theorem DX12_lay_127 : decode jX12_lay.2.1 127 = .ok (.sipush 200, 3) := by decide +kernel
theorem DX12_lay_130 : decode jX12_lay.2.1 130 = .ok (.if_icmp .ne 10, 3) := by decide +kernel
theorem DX12_lay_133 : decode jX12_lay.2.1 133 = .ok (.aload_n 0, 1) := by decide +kernel
theorem DX12_lay_134 : decode jX12_lay.2.1 134 = .ok (.bipush (-6), 2) := by decide +kernel
theorem DX12_lay_136 : decode jX12_lay.2.1 136 = .ok (.invokevirtual 120, 3) := by decide +kernel
theorem DX12_lay_139 : decode jX12_lay.2.1 139 = .ok (.ireturn, 1) := by decide +kernel
theorem DX12_lay_140 : decode jX12_lay.2.1 140 = .ok (.aload_n 0, 1) := by decide +kernel
theorem DX12_lay_141 : decode jX12_lay.2.1 141 = .ok (.getfield 62, 3) := by decide +kernel
theorem DX12_lay_144 : decode jX12_lay.2.1 144 = .ok (.iload_n 1, 1) := by decide +kernel
theorem DX12_lay_145 : decode jX12_lay.2.1 145 = .ok (.iconst 1, 1) := by decide +kernel
theorem DX12_lay_146 : decode jX12_lay.2.1 146 = .ok (.bastore, 1) := by decide +kernel
theorem DX12_lay_147 : decode jX12_lay.2.1 147 = .ok (.aload_n 0, 1) := by decide +kernel
theorem DX12_lay_148 : decode jX12_lay.2.1 148 = .ok (.getfield 62, 3) := by decide +kernel
theorem DX12_lay_151 : decode jX12_lay.2.1 151 = .ok (.iload_n 2, 1) := by decide +kernel
theorem DX12_lay_152 : decode jX12_lay.2.1 152 = .ok (.iconst 1, 1) := by decide +kernel
theorem DX12_lay_153 : decode jX12_lay.2.1 153 = .ok (.bastore, 1) := by decide +kernel
theorem DX12_lay_154 : decode jX12_lay.2.1 154 = .ok (.aload_n 0, 1) := by decide +kernel
theorem DX12_lay_155 : decode jX12_lay.2.1 155 = .ok (.getfield 62, 3) := by decide +kernel
theorem DX12_lay_158 : decode jX12_lay.2.1 158 = .ok (.iload_n 3, 1) := by decide +kernel
theorem DX12_lay_159 : decode jX12_lay.2.1 159 = .ok (.iconst 1, 1) := by decide +kernel
theorem DX12_lay_160 : decode jX12_lay.2.1 160 = .ok (.bastore, 1) := by decide +kernel
theorem DX12_lay_161 : decode jX12_lay.2.1 161 = .ok (.aload_n 0, 1) := by decide +kernel
theorem DX12_lay_162 : decode jX12_lay.2.1 162 = .ok (.aload_n 0, 1) := by decide +kernel
theorem DX12_lay_163 : decode jX12_lay.2.1 163 = .ok (.getfield 44, 3) := by decide +kernel
theorem DX12_lay_166 : decode jX12_lay.2.1 166 = .ok (.iload_n 1, 1) := by decide +kernel
theorem DX12_lay_167 : decode jX12_lay.2.1 167 = .ok (.iaload, 1) := by decide +kernel
theorem DX12_lay_168 : decode jX12_lay.2.1 168 = .ok (.iconst 1, 1) := by decide +kernel
theorem DX12_lay_169 : decode jX12_lay.2.1 169 = .ok (.iadd, 1) := by decide +kernel
theorem DX12_lay_170 : decode jX12_lay.2.1 170 = .ok (.iconst 1, 1) := by decide +kernel
theorem DX12_lay_171 : decode jX12_lay.2.1 171 = .ok (.aload_n 0, 1) := by decide +kernel
theorem DX12_lay_172 : decode jX12_lay.2.1 172 = .ok (.getfield 47, 3) := by decide +kernel
theorem DX12_lay_175 : decode jX12_lay.2.1 175 = .ok (.iload_n 1, 1) := by decide +kernel
theorem DX12_lay_176 : decode jX12_lay.2.1 176 = .ok (.iaload, 1) := by decide +kernel
theorem DX12_lay_177 : decode jX12_lay.2.1 177 = .ok (.aload_n 0, 1) := by decide +kernel
theorem DX12_lay_178 : decode jX12_lay.2.1 178 = .ok (.getfield 47, 3) := by decide +kernel
theorem DX12_lay_181 : decode jX12_lay.2.1 181 = .ok (.iload_n 2, 1) := by decide +kernel
theorem DX12_lay_182 : decode jX12_lay.2.1 182 = .ok (.iaload, 1) := by decide +kernel
theorem DX12_lay_183 : decode jX12_lay.2.1 183 = .ok (.iadd, 1) := by decide +kernel
theorem DX12_lay_184 : decode jX12_lay.2.1 184 = .ok (.aload_n 0, 1) := by decide +kernel
theorem DX12_lay_185 : decode jX12_lay.2.1 185 = .ok (.getfield 47, 3) := by decide +kernel
theorem DX12_lay_188 : decode jX12_lay.2.1 188 = .ok (.iload_n 3, 1) := by decide +kernel
theorem DX12_lay_189 : decode jX12_lay.2.1 189 = .ok (.iaload, 1) := by decide +kernel
theorem DX12_lay_190 : decode jX12_lay.2.1 190 = .ok (.iadd, 1) := by decide +kernel
theorem DX12_lay_191 : decode jX12_lay.2.1 191 = .ok (.iconst 2, 1) := by decide +kernel
theorem DX12_lay_192 : decode jX12_lay.2.1 192 = .ok (.isub, 1) := by decide +kernel
theorem DX12_lay_193 : decode jX12_lay.2.1 193 = .ok (.invokestatic 135, 3) := by decide +kernel
theorem DX12_lay_196 : decode jX12_lay.2.1 196 = .ok (.iload_n 1, 1) := by decide +kernel
theorem DX12_lay_197 : decode jX12_lay.2.1 197 = .ok (.iload_n 2, 1) := by decide +kernel
theorem DX12_lay_198 : decode jX12_lay.2.1 198 = .ok (.iload_n 3, 1) := by decide +kernel
theorem DX12_lay_199 : decode jX12_lay.2.1 199 = .ok (.invokevirtual 181, 3) := by decide +kernel
theorem DX12_lay_202 : decode jX12_lay.2.1 202 = .ok (.ireturn, 1) := by decide +kernel
theorem DX12_strandsOf_0 : decode jX12_strandsOf.2.1 0 = .ok (.iconst 0, 1) := by decide +kernel
theorem DX12_strandsOf_1 : decode jX12_strandsOf.2.1 1 = .ok (.istore_n 3, 1) := by decide +kernel
theorem DX12_strandsOf_2 : decode jX12_strandsOf.2.1 2 = .ok (.iconst 0, 1) := by decide +kernel
theorem DX12_strandsOf_3 : decode jX12_strandsOf.2.1 3 = .ok (.istore 4, 2) := by decide +kernel
theorem DX12_strandsOf_5 : decode jX12_strandsOf.2.1 5 = .ok (.iload 4, 2) := by decide +kernel
theorem DX12_strandsOf_7 : decode jX12_strandsOf.2.1 7 = .ok (.iconst 3, 1) := by decide +kernel
theorem DX12_strandsOf_8 : decode jX12_strandsOf.2.1 8 = .ok (.if_icmp .ge 55, 3) := by decide +kernel
theorem DX12_strandsOf_11 : decode jX12_strandsOf.2.1 11 = .ok (.aload_n 0, 1) := by decide +kernel
theorem DX12_strandsOf_12 : decode jX12_strandsOf.2.1 12 = .ok (.getfield 56, 3) := by decide +kernel
theorem DX12_strandsOf_15 : decode jX12_strandsOf.2.1 15 = .ok (.iconst 3, 1) := by decide +kernel
theorem DX12_strandsOf_16 : decode jX12_strandsOf.2.1 16 = .ok (.iload_n 1, 1) := by decide +kernel
theorem DX12_strandsOf_17 : decode jX12_strandsOf.2.1 17 = .ok (.imul, 1) := by decide +kernel
theorem DX12_strandsOf_18 : decode jX12_strandsOf.2.1 18 = .ok (.iload 4, 2) := by decide +kernel
theorem DX12_strandsOf_20 : decode jX12_strandsOf.2.1 20 = .ok (.iadd, 1) := by decide +kernel
theorem DX12_strandsOf_21 : decode jX12_strandsOf.2.1 21 = .ok (.iaload, 1) := by decide +kernel
theorem DX12_strandsOf_22 : decode jX12_strandsOf.2.1 22 = .ok (.istore 5, 2) := by decide +kernel
theorem DX12_strandsOf_24 : decode jX12_strandsOf.2.1 24 = .ok (.iload_n 3, 1) := by decide +kernel
theorem DX12_strandsOf_25 : decode jX12_strandsOf.2.1 25 = .ok (.aload_n 0, 1) := by decide +kernel
theorem DX12_strandsOf_26 : decode jX12_strandsOf.2.1 26 = .ok (.getfield 44, 3) := by decide +kernel
theorem DX12_strandsOf_29 : decode jX12_strandsOf.2.1 29 = .ok (.iload_n 1, 1) := by decide +kernel
theorem DX12_strandsOf_30 : decode jX12_strandsOf.2.1 30 = .ok (.iaload, 1) := by decide +kernel
theorem DX12_strandsOf_31 : decode jX12_strandsOf.2.1 31 = .ok (.ifCond .ne 17, 3) := by decide +kernel
theorem DX12_strandsOf_34 : decode jX12_strandsOf.2.1 34 = .ok (.iload 5, 2) := by decide +kernel
theorem DX12_strandsOf_36 : decode jX12_strandsOf.2.1 36 = .ok (.iload_n 2, 1) := by decide +kernel
theorem DX12_strandsOf_37 : decode jX12_strandsOf.2.1 37 = .ok (.if_icmp .ne 7, 3) := by decide +kernel
theorem DX12_strandsOf_40 : decode jX12_strandsOf.2.1 40 = .ok (.iconst 1, 1) := by decide +kernel
theorem DX12_strandsOf_41 : decode jX12_strandsOf.2.1 41 = .ok (.goto 14, 3) := by decide +kernel
theorem DX12_strandsOf_44 : decode jX12_strandsOf.2.1 44 = .ok (.iconst 0, 1) := by decide +kernel
theorem DX12_strandsOf_45 : decode jX12_strandsOf.2.1 45 = .ok (.goto 10, 3) := by decide +kernel
theorem DX12_strandsOf_48 : decode jX12_strandsOf.2.1 48 = .ok (.aload_n 0, 1) := by decide +kernel
theorem DX12_strandsOf_49 : decode jX12_strandsOf.2.1 49 = .ok (.iload 5, 2) := by decide +kernel
theorem DX12_strandsOf_51 : decode jX12_strandsOf.2.1 51 = .ok (.iload_n 2, 1) := by decide +kernel
theorem DX12_strandsOf_52 : decode jX12_strandsOf.2.1 52 = .ok (.invokevirtual 191, 3) := by decide +kernel
theorem DX12_strandsOf_55 : decode jX12_strandsOf.2.1 55 = .ok (.iadd, 1) := by decide +kernel
theorem DX12_strandsOf_56 : decode jX12_strandsOf.2.1 56 = .ok (.istore_n 3, 1) := by decide +kernel
theorem DX12_strandsOf_57 : decode jX12_strandsOf.2.1 57 = .ok (.iinc 4 1, 3) := by decide +kernel
theorem DX12_strandsOf_60 : decode jX12_strandsOf.2.1 60 = .ok (.goto (-55), 3) := by decide +kernel
theorem DX12_strandsOf_63 : decode jX12_strandsOf.2.1 63 = .ok (.iload_n 3, 1) := by decide +kernel
theorem DX12_strandsOf_64 : decode jX12_strandsOf.2.1 64 = .ok (.ireturn, 1) := by decide +kernel
theorem DX12_strands_0 : decode jX12_strands.2.1 0 = .ok (.aload_n 0, 1) := by decide +kernel
theorem DX12_strands_1 : decode jX12_strands.2.1 1 = .ok (.iload_n 1, 1) := by decide +kernel
theorem DX12_strands_2 : decode jX12_strands.2.1 2 = .ok (.invokevirtual 185, 3) := by decide +kernel
theorem DX12_strands_5 : decode jX12_strands.2.1 5 = .ok (.ifCond .eq 20, 3) := by decide +kernel
theorem DX12_strands_8 : decode jX12_strands.2.1 8 = .ok (.aload_n 0, 1) := by decide +kernel
theorem DX12_strands_9 : decode jX12_strands.2.1 9 = .ok (.iload_n 2, 1) := by decide +kernel
theorem DX12_strands_10 : decode jX12_strands.2.1 10 = .ok (.invokevirtual 148, 3) := by decide +kernel
theorem DX12_strands_13 : decode jX12_strands.2.1 13 = .ok (.ifCond .eq 12, 3) := by decide +kernel
theorem DX12_strands_16 : decode jX12_strands.2.1 16 = .ok (.aload_n 0, 1) := by decide +kernel
theorem DX12_strands_17 : decode jX12_strands.2.1 17 = .ok (.iload_n 1, 1) := by decide +kernel
theorem DX12_strands_18 : decode jX12_strands.2.1 18 = .ok (.iload_n 2, 1) := by decide +kernel
theorem DX12_strands_19 : decode jX12_strands.2.1 19 = .ok (.invokevirtual 191, 3) := by decide +kernel
theorem DX12_strands_22 : decode jX12_strands.2.1 22 = .ok (.goto 8, 3) := by decide +kernel
theorem DX12_strands_25 : decode jX12_strands.2.1 25 = .ok (.aload_n 0, 1) := by decide +kernel
theorem DX12_strands_26 : decode jX12_strands.2.1 26 = .ok (.iconst (-1), 1) := by decide +kernel
theorem DX12_strands_27 : decode jX12_strands.2.1 27 = .ok (.invokevirtual 120, 3) := by decide +kernel
theorem DX12_strands_30 : decode jX12_strands.2.1 30 = .ok (.ireturn, 1) := by decide +kernel
theorem DX12_hang_0 : decode jX12_hang.2.1 0 = .ok (.aload_n 0, 1) := by decide +kernel
theorem DX12_hang_1 : decode jX12_hang.2.1 1 = .ok (.iload_n 1, 1) := by decide +kernel
theorem DX12_hang_2 : decode jX12_hang.2.1 2 = .ok (.invokevirtual 185, 3) := by decide +kernel
theorem DX12_hang_5 : decode jX12_hang.2.1 5 = .ok (.ifCond .eq 12, 3) := by decide +kernel
theorem DX12_hang_8 : decode jX12_hang.2.1 8 = .ok (.iload_n 2, 1) := by decide +kernel
theorem DX12_hang_9 : decode jX12_hang.2.1 9 = .ok (.bipush 6, 2) := by decide +kernel
theorem DX12_hang_11 : decode jX12_hang.2.1 11 = .ok (.invokestatic 124, 3) := by decide +kernel
theorem DX12_hang_14 : decode jX12_hang.2.1 14 = .ok (.ifCond .ne 9, 3) := by decide +kernel
theorem DX12_hang_17 : decode jX12_hang.2.1 17 = .ok (.aload_n 0, 1) := by decide +kernel
theorem DX12_hang_18 : decode jX12_hang.2.1 18 = .ok (.iconst (-1), 1) := by decide +kernel
theorem DX12_hang_19 : decode jX12_hang.2.1 19 = .ok (.invokevirtual 120, 3) := by decide +kernel
theorem DX12_hang_22 : decode jX12_hang.2.1 22 = .ok (.ireturn, 1) := by decide +kernel
theorem DX12_hang_23 : decode jX12_hang.2.1 23 = .ok (.aload_n 0, 1) := by decide +kernel
theorem DX12_hang_24 : decode jX12_hang.2.1 24 = .ok (.getfield 44, 3) := by decide +kernel
theorem DX12_hang_27 : decode jX12_hang.2.1 27 = .ok (.iload_n 1, 1) := by decide +kernel
theorem DX12_hang_28 : decode jX12_hang.2.1 28 = .ok (.iaload, 1) := by decide +kernel
theorem DX12_hang_29 : decode jX12_hang.2.1 29 = .ok (.iconst 2, 1) := by decide +kernel
theorem DX12_hang_30 : decode jX12_hang.2.1 30 = .ok (.if_icmp .eq 10, 3) := by decide +kernel
theorem DX12_hang_33 : decode jX12_hang.2.1 33 = .ok (.aload_n 0, 1) := by decide +kernel
theorem DX12_hang_34 : decode jX12_hang.2.1 34 = .ok (.bipush (-2), 2) := by decide +kernel
theorem DX12_hang_36 : decode jX12_hang.2.1 36 = .ok (.invokevirtual 120, 3) := by decide +kernel
theorem DX12_hang_39 : decode jX12_hang.2.1 39 = .ok (.ireturn, 1) := by decide +kernel
theorem DX12_hang_40 : decode jX12_hang.2.1 40 = .ok (.aload_n 0, 1) := by decide +kernel
theorem DX12_hang_41 : decode jX12_hang.2.1 41 = .ok (.iload_n 1, 1) := by decide +kernel
theorem DX12_hang_42 : decode jX12_hang.2.1 42 = .ok (.invokevirtual 188, 3) := by decide +kernel
theorem DX12_hang_45 : decode jX12_hang.2.1 45 = .ok (.ifCond .eq 12, 3) := by decide +kernel
theorem DX12_hang_48 : decode jX12_hang.2.1 48 = .ok (.aload_n 0, 1) := by decide +kernel
theorem DX12_hang_49 : decode jX12_hang.2.1 49 = .ok (.getfield 65, 3) := by decide +kernel
theorem DX12_hang_52 : decode jX12_hang.2.1 52 = .ok (.iload_n 2, 1) := by decide +kernel
theorem DX12_hang_53 : decode jX12_hang.2.1 53 = .ok (.iaload, 1) := by decide +kernel
theorem DX12_hang_54 : decode jX12_hang.2.1 54 = .ok (.ifCond .lt 10, 3) := by decide +kernel
theorem DX12_hang_57 : decode jX12_hang.2.1 57 = .ok (.aload_n 0, 1) := by decide +kernel
theorem DX12_hang_58 : decode jX12_hang.2.1 58 = .ok (.bipush (-3), 2) := by decide +kernel
theorem DX12_hang_60 : decode jX12_hang.2.1 60 = .ok (.invokevirtual 120, 3) := by decide +kernel
theorem DX12_hang_63 : decode jX12_hang.2.1 63 = .ok (.ireturn, 1) := by decide +kernel
theorem DX12_hang_64 : decode jX12_hang.2.1 64 = .ok (.aload_n 0, 1) := by decide +kernel
theorem DX12_hang_65 : decode jX12_hang.2.1 65 = .ok (.getfield 62, 3) := by decide +kernel
theorem DX12_hang_68 : decode jX12_hang.2.1 68 = .ok (.iload_n 1, 1) := by decide +kernel
theorem DX12_hang_69 : decode jX12_hang.2.1 69 = .ok (.iconst 1, 1) := by decide +kernel
theorem DX12_hang_70 : decode jX12_hang.2.1 70 = .ok (.bastore, 1) := by decide +kernel
theorem DX12_hang_71 : decode jX12_hang.2.1 71 = .ok (.aload_n 0, 1) := by decide +kernel
theorem DX12_hang_72 : decode jX12_hang.2.1 72 = .ok (.getfield 65, 3) := by decide +kernel
theorem DX12_hang_75 : decode jX12_hang.2.1 75 = .ok (.iload_n 2, 1) := by decide +kernel
theorem DX12_hang_76 : decode jX12_hang.2.1 76 = .ok (.iload_n 1, 1) := by decide +kernel
theorem DX12_hang_77 : decode jX12_hang.2.1 77 = .ok (.iastore, 1) := by decide +kernel
theorem DX12_hang_78 : decode jX12_hang.2.1 78 = .ok (.aload_n 0, 1) := by decide +kernel
theorem DX12_hang_79 : decode jX12_hang.2.1 79 = .ok (.getfield 53, 3) := by decide +kernel
theorem DX12_hang_82 : decode jX12_hang.2.1 82 = .ok (.iload_n 1, 1) := by decide +kernel
theorem DX12_hang_83 : decode jX12_hang.2.1 83 = .ok (.iload_n 2, 1) := by decide +kernel
theorem DX12_hang_84 : decode jX12_hang.2.1 84 = .ok (.iastore, 1) := by decide +kernel
theorem DX12_hang_85 : decode jX12_hang.2.1 85 = .ok (.aload_n 0, 1) := by decide +kernel
theorem DX12_hang_86 : decode jX12_hang.2.1 86 = .ok (.getfield 68, 3) := by decide +kernel
theorem DX12_hang_89 : decode jX12_hang.2.1 89 = .ok (.iload_n 2, 1) := by decide +kernel
theorem DX12_hang_90 : decode jX12_hang.2.1 90 = .ok (.bipush 50, 2) := by decide +kernel
theorem DX12_hang_92 : decode jX12_hang.2.1 92 = .ok (.iastore, 1) := by decide +kernel
theorem DX12_hang_93 : decode jX12_hang.2.1 93 = .ok (.aload_n 0, 1) := by decide +kernel
theorem DX12_hang_94 : decode jX12_hang.2.1 94 = .ok (.getfield 71, 3) := by decide +kernel
theorem DX12_hang_97 : decode jX12_hang.2.1 97 = .ok (.iload_n 2, 1) := by decide +kernel
theorem DX12_hang_98 : decode jX12_hang.2.1 98 = .ok (.iconst 0, 1) := by decide +kernel
theorem DX12_hang_99 : decode jX12_hang.2.1 99 = .ok (.iastore, 1) := by decide +kernel
theorem DX12_hang_100 : decode jX12_hang.2.1 100 = .ok (.aload_n 0, 1) := by decide +kernel
theorem DX12_hang_101 : decode jX12_hang.2.1 101 = .ok (.getfield 74, 3) := by decide +kernel
theorem DX12_hang_104 : decode jX12_hang.2.1 104 = .ok (.iload_n 2, 1) := by decide +kernel
theorem DX12_hang_105 : decode jX12_hang.2.1 105 = .ok (.iconst 0, 1) := by decide +kernel
theorem DX12_hang_106 : decode jX12_hang.2.1 106 = .ok (.iastore, 1) := by decide +kernel
theorem DX12_hang_107 : decode jX12_hang.2.1 107 = .ok (.iconst 1, 1) := by decide +kernel
theorem DX12_hang_108 : decode jX12_hang.2.1 108 = .ok (.ireturn, 1) := by decide +kernel
theorem DX12_tension_0 : decode jX12_tension.2.1 0 = .ok (.iload_n 1, 1) := by decide +kernel
theorem DX12_tension_1 : decode jX12_tension.2.1 1 = .ok (.bipush 6, 2) := by decide +kernel
theorem DX12_tension_3 : decode jX12_tension.2.1 3 = .ok (.invokestatic 124, 3) := by decide +kernel
theorem DX12_tension_6 : decode jX12_tension.2.1 6 = .ok (.ifCond .ne 7, 3) := by decide +kernel
theorem DX12_tension_9 : decode jX12_tension.2.1 9 = .ok (.iconst (-1), 1) := by decide +kernel
theorem DX12_tension_10 : decode jX12_tension.2.1 10 = .ok (.goto 24, 3) := by decide +kernel
theorem DX12_tension_13 : decode jX12_tension.2.1 13 = .ok (.aload_n 0, 1) := by decide +kernel
theorem DX12_tension_14 : decode jX12_tension.2.1 14 = .ok (.getfield 65, 3) := by decide +kernel
theorem DX12_tension_17 : decode jX12_tension.2.1 17 = .ok (.iload_n 1, 1) := by decide +kernel
theorem DX12_tension_18 : decode jX12_tension.2.1 18 = .ok (.iaload, 1) := by decide +kernel
theorem DX12_tension_19 : decode jX12_tension.2.1 19 = .ok (.ifCond .ge 8, 3) := by decide +kernel
theorem DX12_tension_22 : decode jX12_tension.2.1 22 = .ok (.bipush (-3), 2) := by decide +kernel
theorem DX12_tension_24 : decode jX12_tension.2.1 24 = .ok (.goto 10, 3) := by decide +kernel
theorem DX12_tension_27 : decode jX12_tension.2.1 27 = .ok (.iload_n 2, 1) := by decide +kernel
theorem DX12_tension_28 : decode jX12_tension.2.1 28 = .ok (.iconst 0, 1) := by decide +kernel
theorem DX12_tension_29 : decode jX12_tension.2.1 29 = .ok (.bipush 99, 2) := by decide +kernel
theorem DX12_tension_31 : decode jX12_tension.2.1 31 = .ok (.invokestatic 128, 3) := by decide +kernel
theorem DX12_tension_34 : decode jX12_tension.2.1 34 = .ok (.istore_n 3, 1) := by decide +kernel
theorem DX12_tension_35 : decode jX12_tension.2.1 35 = .ok (.iload_n 3, 1) := by decide +kernel
theorem DX12_tension_36 : decode jX12_tension.2.1 36 = .ok (.ifCond .eq 9, 3) := by decide +kernel
theorem DX12_tension_39 : decode jX12_tension.2.1 39 = .ok (.aload_n 0, 1) := by decide +kernel
theorem DX12_tension_40 : decode jX12_tension.2.1 40 = .ok (.iload_n 3, 1) := by decide +kernel
theorem DX12_tension_41 : decode jX12_tension.2.1 41 = .ok (.invokevirtual 120, 3) := by decide +kernel
theorem DX12_tension_44 : decode jX12_tension.2.1 44 = .ok (.ireturn, 1) := by decide +kernel
theorem DX12_tension_45 : decode jX12_tension.2.1 45 = .ok (.aload_n 0, 1) := by decide +kernel
theorem DX12_tension_46 : decode jX12_tension.2.1 46 = .ok (.getfield 68, 3) := by decide +kernel
theorem DX12_tension_49 : decode jX12_tension.2.1 49 = .ok (.iload_n 1, 1) := by decide +kernel
theorem DX12_tension_50 : decode jX12_tension.2.1 50 = .ok (.iaload, 1) := by decide +kernel
theorem DX12_tension_51 : decode jX12_tension.2.1 51 = .ok (.istore 4, 2) := by decide +kernel
theorem DX12_tension_53 : decode jX12_tension.2.1 53 = .ok (.aload_n 0, 1) := by decide +kernel
theorem DX12_tension_54 : decode jX12_tension.2.1 54 = .ok (.getfield 68, 3) := by decide +kernel
theorem DX12_tension_57 : decode jX12_tension.2.1 57 = .ok (.iload_n 1, 1) := by decide +kernel
theorem DX12_tension_58 : decode jX12_tension.2.1 58 = .ok (.iload_n 2, 1) := by decide +kernel
theorem DX12_tension_59 : decode jX12_tension.2.1 59 = .ok (.iastore, 1) := by decide +kernel
theorem DX12_tension_60 : decode jX12_tension.2.1 60 = .ok (.iload 4, 2) := by decide +kernel
theorem DX12_tension_62 : decode jX12_tension.2.1 62 = .ok (.ireturn, 1) := by decide +kernel
theorem DX12_strengthOf_0 : decode jX12_strengthOf.2.1 0 = .ok (.aload_n 0, 1) := by decide +kernel
theorem DX12_strengthOf_1 : decode jX12_strengthOf.2.1 1 = .ok (.getfield 65, 3) := by decide +kernel
theorem DX12_strengthOf_4 : decode jX12_strengthOf.2.1 4 = .ok (.iload_n 1, 1) := by decide +kernel
theorem DX12_strengthOf_5 : decode jX12_strengthOf.2.1 5 = .ok (.iaload, 1) := by decide +kernel
theorem DX12_strengthOf_6 : decode jX12_strengthOf.2.1 6 = .ok (.ifCond .ge 7, 3) := by decide +kernel
theorem DX12_strengthOf_9 : decode jX12_strengthOf.2.1 9 = .ok (.iconst 0, 1) := by decide +kernel
theorem DX12_strengthOf_10 : decode jX12_strengthOf.2.1 10 = .ok (.goto 42, 3) := by decide +kernel
theorem DX12_strengthOf_13 : decode jX12_strengthOf.2.1 13 = .ok (.iconst 0, 1) := by decide +kernel
theorem DX12_strengthOf_14 : decode jX12_strengthOf.2.1 14 = .ok (.bipush 10, 2) := by decide +kernel
theorem DX12_strengthOf_16 : decode jX12_strengthOf.2.1 16 = .ok (.aload_n 0, 1) := by decide +kernel
theorem DX12_strengthOf_17 : decode jX12_strengthOf.2.1 17 = .ok (.getfield 47, 3) := by decide +kernel
theorem DX12_strengthOf_20 : decode jX12_strengthOf.2.1 20 = .ok (.aload_n 0, 1) := by decide +kernel
theorem DX12_strengthOf_21 : decode jX12_strengthOf.2.1 21 = .ok (.getfield 65, 3) := by decide +kernel
theorem DX12_strengthOf_24 : decode jX12_strengthOf.2.1 24 = .ok (.iload_n 1, 1) := by decide +kernel
theorem DX12_strengthOf_25 : decode jX12_strengthOf.2.1 25 = .ok (.iaload, 1) := by decide +kernel
theorem DX12_strengthOf_26 : decode jX12_strengthOf.2.1 26 = .ok (.iaload, 1) := by decide +kernel
theorem DX12_strengthOf_27 : decode jX12_strengthOf.2.1 27 = .ok (.imul, 1) := by decide +kernel
theorem DX12_strengthOf_28 : decode jX12_strengthOf.2.1 28 = .ok (.aload_n 0, 1) := by decide +kernel
theorem DX12_strengthOf_29 : decode jX12_strengthOf.2.1 29 = .ok (.getfield 71, 3) := by decide +kernel
theorem DX12_strengthOf_32 : decode jX12_strengthOf.2.1 32 = .ok (.iload_n 1, 1) := by decide +kernel
theorem DX12_strengthOf_33 : decode jX12_strengthOf.2.1 33 = .ok (.iaload, 1) := by decide +kernel
theorem DX12_strengthOf_34 : decode jX12_strengthOf.2.1 34 = .ok (.iload_n 2, 1) := by decide +kernel
theorem DX12_strengthOf_35 : decode jX12_strengthOf.2.1 35 = .ok (.iadd, 1) := by decide +kernel
theorem DX12_strengthOf_36 : decode jX12_strengthOf.2.1 36 = .ok (.iconst 3, 1) := by decide +kernel
theorem DX12_strengthOf_37 : decode jX12_strengthOf.2.1 37 = .ok (.idiv, 1) := by decide +kernel
theorem DX12_strengthOf_38 : decode jX12_strengthOf.2.1 38 = .ok (.isub, 1) := by decide +kernel
theorem DX12_strengthOf_39 : decode jX12_strengthOf.2.1 39 = .ok (.bipush 40, 2) := by decide +kernel
theorem DX12_strengthOf_41 : decode jX12_strengthOf.2.1 41 = .ok (.aload_n 0, 1) := by decide +kernel
theorem DX12_strengthOf_42 : decode jX12_strengthOf.2.1 42 = .ok (.getfield 74, 3) := by decide +kernel
theorem DX12_strengthOf_45 : decode jX12_strengthOf.2.1 45 = .ok (.iload_n 1, 1) := by decide +kernel
theorem DX12_strengthOf_46 : decode jX12_strengthOf.2.1 46 = .ok (.iaload, 1) := by decide +kernel
theorem DX12_strengthOf_47 : decode jX12_strengthOf.2.1 47 = .ok (.imul, 1) := by decide +kernel
theorem DX12_strengthOf_48 : decode jX12_strengthOf.2.1 48 = .ok (.isub, 1) := by decide +kernel
theorem DX12_strengthOf_49 : decode jX12_strengthOf.2.1 49 = .ok (.invokestatic 135, 3) := by decide +kernel
theorem DX12_strengthOf_52 : decode jX12_strengthOf.2.1 52 = .ok (.ireturn, 1) := by decide +kernel
theorem DX12_strength_0 : decode jX12_strength.2.1 0 = .ok (.iload_n 1, 1) := by decide +kernel
theorem DX12_strength_1 : decode jX12_strength.2.1 1 = .ok (.bipush 6, 2) := by decide +kernel
theorem DX12_strength_3 : decode jX12_strength.2.1 3 = .ok (.invokestatic 124, 3) := by decide +kernel
theorem DX12_strength_6 : decode jX12_strength.2.1 6 = .ok (.ifCond .eq 12, 3) := by decide +kernel
theorem DX12_strength_9 : decode jX12_strength.2.1 9 = .ok (.aload_n 0, 1) := by decide +kernel
theorem DX12_strength_10 : decode jX12_strength.2.1 10 = .ok (.iload_n 1, 1) := by decide +kernel
theorem DX12_strength_11 : decode jX12_strength.2.1 11 = .ok (.iconst 0, 1) := by decide +kernel
theorem DX12_strength_12 : decode jX12_strength.2.1 12 = .ok (.invokevirtual 197, 3) := by decide +kernel
theorem DX12_strength_15 : decode jX12_strength.2.1 15 = .ok (.goto 8, 3) := by decide +kernel
theorem DX12_strength_18 : decode jX12_strength.2.1 18 = .ok (.aload_n 0, 1) := by decide +kernel
theorem DX12_strength_19 : decode jX12_strength.2.1 19 = .ok (.iconst (-1), 1) := by decide +kernel
theorem DX12_strength_20 : decode jX12_strength.2.1 20 = .ok (.invokevirtual 120, 3) := by decide +kernel
theorem DX12_strength_23 : decode jX12_strength.2.1 23 = .ok (.ireturn, 1) := by decide +kernel
theorem DX12_isLet_0 : decode jX12_isLet.2.1 0 = .ok (.iload_n 1, 1) := by decide +kernel
theorem DX12_isLet_1 : decode jX12_isLet.2.1 1 = .ok (.aload_n 0, 1) := by decide +kernel
theorem DX12_isLet_2 : decode jX12_isLet.2.1 2 = .ok (.iload_n 2, 1) := by decide +kernel
theorem DX12_isLet_3 : decode jX12_isLet.2.1 3 = .ok (.invokevirtual 200, 3) := by decide +kernel
theorem DX12_isLet_6 : decode jX12_isLet.2.1 6 = .ok (.if_icmp .gt 25, 3) := by decide +kernel
theorem DX12_isLet_9 : decode jX12_isLet.2.1 9 = .ok (.aload_n 0, 1) := by decide +kernel
theorem DX12_isLet_10 : decode jX12_isLet.2.1 10 = .ok (.iconst 4, 1) := by decide +kernel
theorem DX12_isLet_11 : decode jX12_isLet.2.1 11 = .ok (.iload_n 2, 1) := by decide +kernel
theorem DX12_isLet_12 : decode jX12_isLet.2.1 12 = .ok (.invokevirtual 197, 3) := by decide +kernel
theorem DX12_isLet_15 : decode jX12_isLet.2.1 15 = .ok (.ifCond .le 16, 3) := by decide +kernel
theorem DX12_isLet_18 : decode jX12_isLet.2.1 18 = .ok (.aload_n 0, 1) := by decide +kernel
theorem DX12_isLet_19 : decode jX12_isLet.2.1 19 = .ok (.iconst 5, 1) := by decide +kernel
theorem DX12_isLet_20 : decode jX12_isLet.2.1 20 = .ok (.iload_n 2, 1) := by decide +kernel
theorem DX12_isLet_21 : decode jX12_isLet.2.1 21 = .ok (.invokevirtual 197, 3) := by decide +kernel
theorem DX12_isLet_24 : decode jX12_isLet.2.1 24 = .ok (.ifCond .le 7, 3) := by decide +kernel
theorem DX12_isLet_27 : decode jX12_isLet.2.1 27 = .ok (.iconst 1, 1) := by decide +kernel
theorem DX12_isLet_28 : decode jX12_isLet.2.1 28 = .ok (.goto 4, 3) := by decide +kernel
theorem DX12_isLet_31 : decode jX12_isLet.2.1 31 = .ok (.iconst 0, 1) := by decide +kernel
theorem DX12_isLet_32 : decode jX12_isLet.2.1 32 = .ok (.ireturn, 1) := by decide +kernel
theorem DX12_load_0 : decode jX12_load.2.1 0 = .ok (.iload_n 1, 1) := by decide +kernel
theorem DX12_load_1 : decode jX12_load.2.1 1 = .ok (.iconst 0, 1) := by decide +kernel
theorem DX12_load_2 : decode jX12_load.2.1 2 = .ok (.sipush 2000, 3) := by decide +kernel
theorem DX12_load_5 : decode jX12_load.2.1 5 = .ok (.invokestatic 128, 3) := by decide +kernel
theorem DX12_load_8 : decode jX12_load.2.1 8 = .ok (.istore_n 2, 1) := by decide +kernel
theorem DX12_load_9 : decode jX12_load.2.1 9 = .ok (.iload_n 2, 1) := by decide +kernel
theorem DX12_load_10 : decode jX12_load.2.1 10 = .ok (.ifCond .eq 11, 3) := by decide +kernel
theorem DX12_load_13 : decode jX12_load.2.1 13 = .ok (.aload_n 0, 1) := by decide +kernel
theorem DX12_load_14 : decode jX12_load.2.1 14 = .ok (.iload_n 2, 1) := by decide +kernel
theorem DX12_load_15 : decode jX12_load.2.1 15 = .ok (.invokevirtual 120, 3) := by decide +kernel
theorem DX12_load_18 : decode jX12_load.2.1 18 = .ok (.goto 17, 3) := by decide +kernel
theorem DX12_load_21 : decode jX12_load.2.1 21 = .ok (.aload_n 0, 1) := by decide +kernel
theorem DX12_load_22 : decode jX12_load.2.1 22 = .ok (.iload_n 1, 1) := by decide +kernel
theorem DX12_load_23 : decode jX12_load.2.1 23 = .ok (.iconst 0, 1) := by decide +kernel
theorem DX12_load_24 : decode jX12_load.2.1 24 = .ok (.invokevirtual 203, 3) := by decide +kernel
theorem DX12_load_27 : decode jX12_load.2.1 27 = .ok (.ifCond .eq 7, 3) := by decide +kernel
theorem DX12_load_30 : decode jX12_load.2.1 30 = .ok (.iconst 1, 1) := by decide +kernel
theorem DX12_load_31 : decode jX12_load.2.1 31 = .ok (.goto 4, 3) := by decide +kernel
theorem DX12_load_34 : decode jX12_load.2.1 34 = .ok (.iconst 0, 1) := by decide +kernel
theorem DX12_load_35 : decode jX12_load.2.1 35 = .ok (.ireturn, 1) := by decide +kernel
theorem DX12_wetOf_0 : decode jX12_wetOf.2.1 0 = .ok (.aload_n 0, 1) := by decide +kernel
theorem DX12_wetOf_1 : decode jX12_wetOf.2.1 1 = .ok (.iload_n 1, 1) := by decide +kernel
theorem DX12_wetOf_2 : decode jX12_wetOf.2.1 2 = .ok (.invokevirtual 141, 3) := by decide +kernel
theorem DX12_wetOf_5 : decode jX12_wetOf.2.1 5 = .ok (.bipush 7, 2) := by decide +kernel
theorem DX12_wetOf_7 : decode jX12_wetOf.2.1 7 = .ok (.if_icmp .lt 13, 3) := by decide +kernel
theorem DX12_wetOf_10 : decode jX12_wetOf.2.1 10 = .ok (.iconst 2, 1) := by decide +kernel
theorem DX12_wetOf_11 : decode jX12_wetOf.2.1 11 = .ok (.aload_n 0, 1) := by decide +kernel
theorem DX12_wetOf_12 : decode jX12_wetOf.2.1 12 = .ok (.iload_n 1, 1) := by decide +kernel
theorem DX12_wetOf_13 : decode jX12_wetOf.2.1 13 = .ok (.invokevirtual 141, 3) := by decide +kernel
theorem DX12_wetOf_16 : decode jX12_wetOf.2.1 16 = .ok (.imul, 1) := by decide +kernel
theorem DX12_wetOf_17 : decode jX12_wetOf.2.1 17 = .ok (.goto 8, 3) := by decide +kernel
theorem DX12_wetOf_20 : decode jX12_wetOf.2.1 20 = .ok (.aload_n 0, 1) := by decide +kernel
theorem DX12_wetOf_21 : decode jX12_wetOf.2.1 21 = .ok (.iload_n 1, 1) := by decide +kernel
theorem DX12_wetOf_22 : decode jX12_wetOf.2.1 22 = .ok (.invokevirtual 141, 3) := by decide +kernel
theorem DX12_wetOf_25 : decode jX12_wetOf.2.1 25 = .ok (.ireturn, 1) := by decide +kernel
theorem DX12_weeks_0 : decode jX12_weeks.2.1 0 = .ok (.iload_n 1, 1) := by decide +kernel
theorem DX12_weeks_1 : decode jX12_weeks.2.1 1 = .ok (.iconst 1, 1) := by decide +kernel
theorem DX12_weeks_2 : decode jX12_weeks.2.1 2 = .ok (.bipush 52, 2) := by decide +kernel
theorem DX12_weeks_4 : decode jX12_weeks.2.1 4 = .ok (.aload_n 0, 1) := by decide +kernel
theorem DX12_weeks_5 : decode jX12_weeks.2.1 5 = .ok (.getfield 165, 3) := by decide +kernel
theorem DX12_weeks_8 : decode jX12_weeks.2.1 8 = .ok (.isub, 1) := by decide +kernel
theorem DX12_weeks_9 : decode jX12_weeks.2.1 9 = .ok (.invokestatic 128, 3) := by decide +kernel
theorem DX12_weeks_12 : decode jX12_weeks.2.1 12 = .ok (.istore_n 2, 1) := by decide +kernel
theorem DX12_weeks_13 : decode jX12_weeks.2.1 13 = .ok (.iload_n 2, 1) := by decide +kernel
theorem DX12_weeks_14 : decode jX12_weeks.2.1 14 = .ok (.ifCond .eq 9, 3) := by decide +kernel
theorem DX12_weeks_17 : decode jX12_weeks.2.1 17 = .ok (.aload_n 0, 1) := by decide +kernel
theorem DX12_weeks_18 : decode jX12_weeks.2.1 18 = .ok (.iload_n 2, 1) := by decide +kernel
theorem DX12_weeks_19 : decode jX12_weeks.2.1 19 = .ok (.invokevirtual 120, 3) := by decide +kernel
theorem DX12_weeks_22 : decode jX12_weeks.2.1 22 = .ok (.ireturn, 1) := by decide +kernel
theorem DX12_weeks_23 : decode jX12_weeks.2.1 23 = .ok (.iconst 0, 1) := by decide +kernel
theorem DX12_weeks_24 : decode jX12_weeks.2.1 24 = .ok (.istore_n 3, 1) := by decide +kernel
theorem DX12_weeks_25 : decode jX12_weeks.2.1 25 = .ok (.iload_n 3, 1) := by decide +kernel
theorem DX12_weeks_26 : decode jX12_weeks.2.1 26 = .ok (.iload_n 1, 1) := by decide +kernel
theorem DX12_weeks_27 : decode jX12_weeks.2.1 27 = .ok (.if_icmp .ge 79, 3) := by decide +kernel
theorem DX12_weeks_30 : decode jX12_weeks.2.1 30 = .ok (.iconst 0, 1) := by decide +kernel
theorem DX12_weeks_31 : decode jX12_weeks.2.1 31 = .ok (.istore 4, 2) := by decide +kernel
theorem DX12_weeks_33 : decode jX12_weeks.2.1 33 = .ok (.iload 4, 2) := by decide +kernel
theorem DX12_weeks_35 : decode jX12_weeks.2.1 35 = .ok (.bipush 6, 2) := by decide +kernel
theorem DX12_weeks_37 : decode jX12_weeks.2.1 37 = .ok (.if_icmp .ge 53, 3) := by decide +kernel
theorem DX12_weeks_40 : decode jX12_weeks.2.1 40 = .ok (.aload_n 0, 1) := by decide +kernel
theorem DX12_weeks_41 : decode jX12_weeks.2.1 41 = .ok (.getfield 71, 3) := by decide +kernel
theorem DX12_weeks_44 : decode jX12_weeks.2.1 44 = .ok (.iload 4, 2) := by decide +kernel
theorem DX12_weeks_46 : decode jX12_weeks.2.1 46 = .ok (.dup2, 1) := by decide +kernel
theorem DX12_weeks_47 : decode jX12_weeks.2.1 47 = .ok (.iaload, 1) := by decide +kernel
theorem DX12_weeks_48 : decode jX12_weeks.2.1 48 = .ok (.aload_n 0, 1) := by decide +kernel
theorem DX12_weeks_49 : decode jX12_weeks.2.1 49 = .ok (.aload_n 0, 1) := by decide +kernel
theorem DX12_weeks_50 : decode jX12_weeks.2.1 50 = .ok (.getfield 165, 3) := by decide +kernel
theorem DX12_weeks_53 : decode jX12_weeks.2.1 53 = .ok (.invokevirtual 206, 3) := by decide +kernel
theorem DX12_weeks_56 : decode jX12_weeks.2.1 56 = .ok (.iadd, 1) := by decide +kernel
theorem DX12_weeks_57 : decode jX12_weeks.2.1 57 = .ok (.iastore, 1) := by decide +kernel
theorem DX12_weeks_58 : decode jX12_weeks.2.1 58 = .ok (.aload_n 0, 1) := by decide +kernel
theorem DX12_weeks_59 : decode jX12_weeks.2.1 59 = .ok (.getfield 65, 3) := by decide +kernel
theorem DX12_weeks_62 : decode jX12_weeks.2.1 62 = .ok (.iload 4, 2) := by decide +kernel
theorem DX12_weeks_64 : decode jX12_weeks.2.1 64 = .ok (.iaload, 1) := by decide +kernel
theorem DX12_weeks_65 : decode jX12_weeks.2.1 65 = .ok (.ifCond .lt 19, 3) := by decide +kernel
theorem DX12_weeks_68 : decode jX12_weeks.2.1 68 = .ok (.aload_n 0, 1) := by decide +kernel
theorem DX12_weeks_69 : decode jX12_weeks.2.1 69 = .ok (.iload 4, 2) := by decide +kernel
theorem DX12_weeks_71 : decode jX12_weeks.2.1 71 = .ok (.iconst 0, 1) := by decide +kernel
theorem DX12_weeks_72 : decode jX12_weeks.2.1 72 = .ok (.invokevirtual 197, 3) := by decide +kernel
theorem DX12_weeks_75 : decode jX12_weeks.2.1 75 = .ok (.ifCond .ne 9, 3) := by decide +kernel
theorem DX12_weeks_78 : decode jX12_weeks.2.1 78 = .ok (.aload_n 0, 1) := by decide +kernel
theorem DX12_weeks_79 : decode jX12_weeks.2.1 79 = .ok (.iload 4, 2) := by decide +kernel
theorem DX12_weeks_81 : decode jX12_weeks.2.1 81 = .ok (.invokevirtual 209, 3) := by decide +kernel
theorem DX12_weeks_84 : decode jX12_weeks.2.1 84 = .ok (.iinc 4 1, 3) := by decide +kernel
theorem DX12_weeks_87 : decode jX12_weeks.2.1 87 = .ok (.goto (-54), 3) := by decide +kernel
theorem DX12_weeks_90 : decode jX12_weeks.2.1 90 = .ok (.aload_n 0, 1) := by decide +kernel
theorem DX12_weeks_91 : decode jX12_weeks.2.1 91 = .ok (.dup, 1) := by decide +kernel
theorem DX12_weeks_92 : decode jX12_weeks.2.1 92 = .ok (.getfield 165, 3) := by decide +kernel
theorem DX12_weeks_95 : decode jX12_weeks.2.1 95 = .ok (.iconst 1, 1) := by decide +kernel
theorem DX12_weeks_96 : decode jX12_weeks.2.1 96 = .ok (.iadd, 1) := by decide +kernel
theorem DX12_weeks_97 : decode jX12_weeks.2.1 97 = .ok (.putfield 165, 3) := by decide +kernel
theorem DX12_weeks_100 : decode jX12_weeks.2.1 100 = .ok (.iinc 3 1, 3) := by decide +kernel
theorem DX12_weeks_103 : decode jX12_weeks.2.1 103 = .ok (.goto (-78), 3) := by decide +kernel
theorem DX12_weeks_106 : decode jX12_weeks.2.1 106 = .ok (.aload_n 0, 1) := by decide +kernel
theorem DX12_weeks_107 : decode jX12_weeks.2.1 107 = .ok (.getfield 165, 3) := by decide +kernel
theorem DX12_weeks_110 : decode jX12_weeks.2.1 110 = .ok (.ireturn, 1) := by decide +kernel
theorem DX12_till_0 : decode jX12_till.2.1 0 = .ok (.iload_n 1, 1) := by decide +kernel
theorem DX12_till_1 : decode jX12_till.2.1 1 = .ok (.iconst 0, 1) := by decide +kernel
theorem DX12_till_2 : decode jX12_till.2.1 2 = .ok (.sipush 2000, 3) := by decide +kernel
theorem DX12_till_5 : decode jX12_till.2.1 5 = .ok (.invokestatic 128, 3) := by decide +kernel
theorem DX12_till_8 : decode jX12_till.2.1 8 = .ok (.istore_n 2, 1) := by decide +kernel
theorem DX12_till_9 : decode jX12_till.2.1 9 = .ok (.iload_n 2, 1) := by decide +kernel
theorem DX12_till_10 : decode jX12_till.2.1 10 = .ok (.ifCond .eq 9, 3) := by decide +kernel
theorem DX12_till_13 : decode jX12_till.2.1 13 = .ok (.aload_n 0, 1) := by decide +kernel
theorem DX12_till_14 : decode jX12_till.2.1 14 = .ok (.iload_n 2, 1) := by decide +kernel
theorem DX12_till_15 : decode jX12_till.2.1 15 = .ok (.invokevirtual 120, 3) := by decide +kernel
theorem DX12_till_18 : decode jX12_till.2.1 18 = .ok (.ireturn, 1) := by decide +kernel
theorem DX12_till_19 : decode jX12_till.2.1 19 = .ok (.iconst 0, 1) := by decide +kernel
theorem DX12_till_20 : decode jX12_till.2.1 20 = .ok (.istore_n 3, 1) := by decide +kernel
theorem DX12_till_21 : decode jX12_till.2.1 21 = .ok (.iconst 0, 1) := by decide +kernel
theorem DX12_till_22 : decode jX12_till.2.1 22 = .ok (.istore 4, 2) := by decide +kernel
theorem DX12_till_24 : decode jX12_till.2.1 24 = .ok (.iload 4, 2) := by decide +kernel
theorem DX12_till_26 : decode jX12_till.2.1 26 = .ok (.bipush 52, 2) := by decide +kernel
theorem DX12_till_28 : decode jX12_till.2.1 28 = .ok (.aload_n 0, 1) := by decide +kernel
theorem DX12_till_29 : decode jX12_till.2.1 29 = .ok (.getfield 165, 3) := by decide +kernel
theorem DX12_till_32 : decode jX12_till.2.1 32 = .ok (.isub, 1) := by decide +kernel
theorem DX12_till_33 : decode jX12_till.2.1 33 = .ok (.if_icmp .gt 47, 3) := by decide +kernel
theorem DX12_till_36 : decode jX12_till.2.1 36 = .ok (.aload_n 0, 1) := by decide +kernel
theorem DX12_till_37 : decode jX12_till.2.1 37 = .ok (.iload_n 1, 1) := by decide +kernel
theorem DX12_till_38 : decode jX12_till.2.1 38 = .ok (.iload_n 3, 1) := by decide +kernel
theorem DX12_till_39 : decode jX12_till.2.1 39 = .ok (.invokevirtual 203, 3) := by decide +kernel
theorem DX12_till_42 : decode jX12_till.2.1 42 = .ok (.ifCond .ne 6, 3) := by decide +kernel
theorem DX12_till_45 : decode jX12_till.2.1 45 = .ok (.iload 4, 2) := by decide +kernel
theorem DX12_till_47 : decode jX12_till.2.1 47 = .ok (.ireturn, 1) := by decide +kernel
theorem DX12_till_48 : decode jX12_till.2.1 48 = .ok (.aload_n 0, 1) := by decide +kernel
theorem DX12_till_49 : decode jX12_till.2.1 49 = .ok (.getfield 165, 3) := by decide +kernel
theorem DX12_till_52 : decode jX12_till.2.1 52 = .ok (.iload 4, 2) := by decide +kernel
theorem DX12_till_54 : decode jX12_till.2.1 54 = .ok (.iadd, 1) := by decide +kernel
theorem DX12_till_55 : decode jX12_till.2.1 55 = .ok (.bipush 52, 2) := by decide +kernel
theorem DX12_till_57 : decode jX12_till.2.1 57 = .ok (.if_icmp .ge 17, 3) := by decide +kernel
theorem DX12_till_60 : decode jX12_till.2.1 60 = .ok (.iload_n 3, 1) := by decide +kernel
theorem DX12_till_61 : decode jX12_till.2.1 61 = .ok (.aload_n 0, 1) := by decide +kernel
theorem DX12_till_62 : decode jX12_till.2.1 62 = .ok (.aload_n 0, 1) := by decide +kernel
theorem DX12_till_63 : decode jX12_till.2.1 63 = .ok (.getfield 165, 3) := by decide +kernel
theorem DX12_till_66 : decode jX12_till.2.1 66 = .ok (.iload 4, 2) := by decide +kernel
theorem DX12_till_68 : decode jX12_till.2.1 68 = .ok (.iadd, 1) := by decide +kernel
theorem DX12_till_69 : decode jX12_till.2.1 69 = .ok (.invokevirtual 206, 3) := by decide +kernel
theorem DX12_till_72 : decode jX12_till.2.1 72 = .ok (.iadd, 1) := by decide +kernel
theorem DX12_till_73 : decode jX12_till.2.1 73 = .ok (.istore_n 3, 1) := by decide +kernel
theorem DX12_till_74 : decode jX12_till.2.1 74 = .ok (.iinc 4 1, 3) := by decide +kernel
theorem DX12_till_77 : decode jX12_till.2.1 77 = .ok (.goto (-53), 3) := by decide +kernel
theorem DX12_till_80 : decode jX12_till.2.1 80 = .ok (.bipush (-9), 2) := by decide +kernel
theorem DX12_till_82 : decode jX12_till.2.1 82 = .ok (.ireturn, 1) := by decide +kernel
theorem DX12_step_0 : decode jX12_step.2.1 0 = .ok (.iload_n 1, 1) := by decide +kernel
theorem DX12_step_1 : decode jX12_step.2.1 1 = .ok (.iconst 3, 1) := by decide +kernel
theorem DX12_step_2 : decode jX12_step.2.1 2 = .ok (.invokestatic 124, 3) := by decide +kernel
theorem DX12_step_5 : decode jX12_step.2.1 5 = .ok (.ifCond .ne 10, 3) := by decide +kernel
theorem DX12_step_8 : decode jX12_step.2.1 8 = .ok (.aload_n 0, 1) := by decide +kernel
theorem DX12_step_9 : decode jX12_step.2.1 9 = .ok (.bipush (-2), 2) := by decide +kernel
theorem DX12_step_11 : decode jX12_step.2.1 11 = .ok (.invokevirtual 120, 3) := by decide +kernel
theorem DX12_step_14 : decode jX12_step.2.1 14 = .ok (.ireturn, 1) := by decide +kernel
theorem DX12_step_15 : decode jX12_step.2.1 15 = .ok (.iload_n 1, 1) := by decide +kernel
theorem DX12_step_16 : decode jX12_step.2.1 16 = .ok (.iconst 2, 1) := by decide +kernel
theorem DX12_step_17 : decode jX12_step.2.1 17 = .ok (.if_icmp .ne 13, 3) := by decide +kernel
theorem DX12_step_20 : decode jX12_step.2.1 20 = .ok (.iload_n 2, 1) := by decide +kernel
theorem DX12_step_21 : decode jX12_step.2.1 21 = .ok (.sipush 600, 3) := by decide +kernel
theorem DX12_step_24 : decode jX12_step.2.1 24 = .ok (.invokestatic 124, 3) := by decide +kernel
theorem DX12_step_27 : decode jX12_step.2.1 27 = .ok (.goto 9, 3) := by decide +kernel
theorem DX12_step_30 : decode jX12_step.2.1 30 = .ok (.iload_n 2, 1) := by decide +kernel
theorem DX12_step_31 : decode jX12_step.2.1 31 = .ok (.bipush 6, 2) := by decide +kernel
theorem DX12_step_33 : decode jX12_step.2.1 33 = .ok (.invokestatic 124, 3) := by decide +kernel
theorem DX12_step_36 : decode jX12_step.2.1 36 = .ok (.istore 6, 2) := by decide +kernel
theorem DX12_step_38 : decode jX12_step.2.1 38 = .ok (.iload 6, 2) := by decide +kernel
theorem DX12_step_40 : decode jX12_step.2.1 40 = .ok (.ifCond .eq 19, 3) := by decide +kernel
theorem DX12_step_43 : decode jX12_step.2.1 43 = .ok (.iload 5, 2) := by decide +kernel
theorem DX12_step_45 : decode jX12_step.2.1 45 = .ok (.ifCond .lt 14, 3) := by decide +kernel
theorem DX12_step_48 : decode jX12_step.2.1 48 = .ok (.iload 5, 2) := by decide +kernel
theorem DX12_step_50 : decode jX12_step.2.1 50 = .ok (.iconst 1, 1) := by decide +kernel
theorem DX12_step_51 : decode jX12_step.2.1 51 = .ok (.aload_n 0, 1) := by decide +kernel
theorem DX12_step_52 : decode jX12_step.2.1 52 = .ok (.getfield 216, 3) := by decide +kernel
theorem DX12_step_55 : decode jX12_step.2.1 55 = .ok (.ishl, 1) := by decide +kernel
theorem DX12_step_56 : decode jX12_step.2.1 56 = .ok (.if_icmp .lt 9, 3) := by decide +kernel
theorem DX12_step_59 : decode jX12_step.2.1 59 = .ok (.aload_n 0, 1) := by decide +kernel
theorem DX12_step_60 : decode jX12_step.2.1 60 = .ok (.iconst (-1), 1) := by decide +kernel
theorem DX12_step_61 : decode jX12_step.2.1 61 = .ok (.invokevirtual 120, 3) := by decide +kernel
theorem DX12_step_64 : decode jX12_step.2.1 64 = .ok (.ireturn, 1) := by decide +kernel
theorem DX12_step_65 : decode jX12_step.2.1 65 = .ok (.iload_n 3, 1) := by decide +kernel
theorem DX12_step_66 : decode jX12_step.2.1 66 = .ok (.iconst 1, 1) := by decide +kernel
theorem DX12_step_67 : decode jX12_step.2.1 67 = .ok (.if_icmp .lt 9, 3) := by decide +kernel
theorem DX12_step_70 : decode jX12_step.2.1 70 = .ok (.iload 4, 2) := by decide +kernel
theorem DX12_step_72 : decode jX12_step.2.1 72 = .ok (.iconst 1, 1) := by decide +kernel
theorem DX12_step_73 : decode jX12_step.2.1 73 = .ok (.if_icmp .ge 10, 3) := by decide +kernel
theorem DX12_step_76 : decode jX12_step.2.1 76 = .ok (.aload_n 0, 1) := by decide +kernel
theorem DX12_step_77 : decode jX12_step.2.1 77 = .ok (.bipush (-4), 2) := by decide +kernel
theorem DX12_step_79 : decode jX12_step.2.1 79 = .ok (.invokevirtual 120, 3) := by decide +kernel
theorem DX12_step_82 : decode jX12_step.2.1 82 = .ok (.ireturn, 1) := by decide +kernel
theorem DX12_step_83 : decode jX12_step.2.1 83 = .ok (.iload_n 3, 1) := by decide +kernel
theorem DX12_step_84 : decode jX12_step.2.1 84 = .ok (.bipush 9, 2) := by decide +kernel
theorem DX12_step_86 : decode jX12_step.2.1 86 = .ok (.if_icmp .gt 19, 3) := by decide +kernel
theorem DX12_step_89 : decode jX12_step.2.1 89 = .ok (.iload 4, 2) := by decide +kernel
theorem DX12_step_91 : decode jX12_step.2.1 91 = .ok (.bipush 60, 2) := by decide +kernel
theorem DX12_step_93 : decode jX12_step.2.1 93 = .ok (.if_icmp .gt 12, 3) := by decide +kernel
theorem DX12_step_96 : decode jX12_step.2.1 96 = .ok (.aload_n 0, 1) := by decide +kernel
theorem DX12_step_97 : decode jX12_step.2.1 97 = .ok (.getfield 216, 3) := by decide +kernel
theorem DX12_step_100 : decode jX12_step.2.1 100 = .ok (.bipush 12, 2) := by decide +kernel
theorem DX12_step_102 : decode jX12_step.2.1 102 = .ok (.if_icmp .ne 10, 3) := by decide +kernel
theorem DX12_step_105 : decode jX12_step.2.1 105 = .ok (.aload_n 0, 1) := by decide +kernel
theorem DX12_step_106 : decode jX12_step.2.1 106 = .ok (.bipush (-6), 2) := by decide +kernel
theorem DX12_step_108 : decode jX12_step.2.1 108 = .ok (.invokevirtual 120, 3) := by decide +kernel
theorem DX12_step_111 : decode jX12_step.2.1 111 = .ok (.ireturn, 1) := by decide +kernel
theorem DX12_step_112 : decode jX12_step.2.1 112 = .ok (.aload_n 0, 1) := by decide +kernel
theorem DX12_step_113 : decode jX12_step.2.1 113 = .ok (.getfield 86, 3) := by decide +kernel
theorem DX12_step_116 : decode jX12_step.2.1 116 = .ok (.aload_n 0, 1) := by decide +kernel
theorem DX12_step_117 : decode jX12_step.2.1 117 = .ok (.getfield 216, 3) := by decide +kernel
theorem DX12_step_120 : decode jX12_step.2.1 120 = .ok (.iload_n 1, 1) := by decide +kernel
theorem DX12_step_121 : decode jX12_step.2.1 121 = .ok (.iastore, 1) := by decide +kernel
theorem DX12_step_122 : decode jX12_step.2.1 122 = .ok (.aload_n 0, 1) := by decide +kernel
theorem DX12_step_123 : decode jX12_step.2.1 123 = .ok (.getfield 89, 3) := by decide +kernel
theorem DX12_step_126 : decode jX12_step.2.1 126 = .ok (.aload_n 0, 1) := by decide +kernel
theorem DX12_step_127 : decode jX12_step.2.1 127 = .ok (.getfield 216, 3) := by decide +kernel
theorem DX12_step_130 : decode jX12_step.2.1 130 = .ok (.iload_n 1, 1) := by decide +kernel
theorem DX12_step_131 : decode jX12_step.2.1 131 = .ok (.iconst 2, 1) := by decide +kernel
theorem DX12_step_132 : decode jX12_step.2.1 132 = .ok (.if_icmp .ne 10, 3) := by decide +kernel
theorem DX12_step_135 : decode jX12_step.2.1 135 = .ok (.iload_n 2, 1) := by decide +kernel
theorem DX12_step_136 : decode jX12_step.2.1 136 = .ok (.bipush 100, 2) := by decide +kernel
theorem DX12_step_138 : decode jX12_step.2.1 138 = .ok (.idiv, 1) := by decide +kernel
theorem DX12_step_139 : decode jX12_step.2.1 139 = .ok (.goto 4, 3) := by decide +kernel
theorem DX12_step_142 : decode jX12_step.2.1 142 = .ok (.iload_n 2, 1) := by decide +kernel
theorem DX12_step_143 : decode jX12_step.2.1 143 = .ok (.iastore, 1) := by decide +kernel
theorem DX12_step_144 : decode jX12_step.2.1 144 = .ok (.aload_n 0, 1) := by decide +kernel
theorem DX12_step_145 : decode jX12_step.2.1 145 = .ok (.getfield 92, 3) := by decide +kernel
theorem DX12_step_148 : decode jX12_step.2.1 148 = .ok (.aload_n 0, 1) := by decide +kernel
theorem DX12_step_149 : decode jX12_step.2.1 149 = .ok (.getfield 216, 3) := by decide +kernel
theorem DX12_step_152 : decode jX12_step.2.1 152 = .ok (.iload_n 3, 1) := by decide +kernel
theorem DX12_step_153 : decode jX12_step.2.1 153 = .ok (.iastore, 1) := by decide +kernel
theorem DX12_step_154 : decode jX12_step.2.1 154 = .ok (.aload_n 0, 1) := by decide +kernel
theorem DX12_step_155 : decode jX12_step.2.1 155 = .ok (.getfield 95, 3) := by decide +kernel
theorem DX12_step_158 : decode jX12_step.2.1 158 = .ok (.aload_n 0, 1) := by decide +kernel
theorem DX12_step_159 : decode jX12_step.2.1 159 = .ok (.getfield 216, 3) := by decide +kernel
theorem DX12_step_162 : decode jX12_step.2.1 162 = .ok (.iload 4, 2) := by decide +kernel
theorem DX12_step_164 : decode jX12_step.2.1 164 = .ok (.iastore, 1) := by decide +kernel
theorem DX12_step_165 : decode jX12_step.2.1 165 = .ok (.aload_n 0, 1) := by decide +kernel
theorem DX12_step_166 : decode jX12_step.2.1 166 = .ok (.getfield 98, 3) := by decide +kernel
theorem DX12_step_169 : decode jX12_step.2.1 169 = .ok (.aload_n 0, 1) := by decide +kernel
theorem DX12_step_170 : decode jX12_step.2.1 170 = .ok (.getfield 216, 3) := by decide +kernel
theorem DX12_step_173 : decode jX12_step.2.1 173 = .ok (.iload 5, 2) := by decide +kernel
theorem DX12_step_175 : decode jX12_step.2.1 175 = .ok (.iastore, 1) := by decide +kernel
theorem DX12_step_176 : decode jX12_step.2.1 176 = .ok (.aload_n 0, 1) := by decide +kernel
theorem DX12_step_177 : decode jX12_step.2.1 177 = .ok (.dup, 1) := by decide +kernel
theorem DX12_step_178 : decode jX12_step.2.1 178 = .ok (.getfield 216, 3) := by decide +kernel
theorem DX12_step_181 : decode jX12_step.2.1 181 = .ok (.iconst 1, 1) := by decide +kernel
theorem DX12_step_182 : decode jX12_step.2.1 182 = .ok (.iadd, 1) := by decide +kernel
theorem DX12_step_183 : decode jX12_step.2.1 183 = .ok (.putfield 216, 3) := by decide +kernel
theorem DX12_step_186 : decode jX12_step.2.1 186 = .ok (.aload_n 0, 1) := by decide +kernel
theorem DX12_step_187 : decode jX12_step.2.1 187 = .ok (.getfield 216, 3) := by decide +kernel
theorem DX12_step_190 : decode jX12_step.2.1 190 = .ok (.iconst 1, 1) := by decide +kernel
theorem DX12_step_191 : decode jX12_step.2.1 191 = .ok (.isub, 1) := by decide +kernel
theorem DX12_step_192 : decode jX12_step.2.1 192 = .ok (.ireturn, 1) := by decide +kernel
theorem DX12_tries_0 : decode jX12_tries.2.1 0 = .ok (.iload_n 1, 1) := by decide +kernel
theorem DX12_tries_1 : decode jX12_tries.2.1 1 = .ok (.aload_n 0, 1) := by decide +kernel
theorem DX12_tries_2 : decode jX12_tries.2.1 2 = .ok (.getfield 216, 3) := by decide +kernel
theorem DX12_tries_5 : decode jX12_tries.2.1 5 = .ok (.if_icmp .ne 62, 3) := by decide +kernel
theorem DX12_tries_8 : decode jX12_tries.2.1 8 = .ok (.aload_n 0, 1) := by decide +kernel
theorem DX12_tries_9 : decode jX12_tries.2.1 9 = .ok (.invokevirtual 219, 3) := by decide +kernel
theorem DX12_tries_12 : decode jX12_tries.2.1 12 = .ok (.istore 6, 2) := by decide +kernel
theorem DX12_tries_14 : decode jX12_tries.2.1 14 = .ok (.aload_n 0, 1) := by decide +kernel
theorem DX12_tries_15 : decode jX12_tries.2.1 15 = .ok (.getfield 222, 3) := by decide +kernel
theorem DX12_tries_18 : decode jX12_tries.2.1 18 = .ok (.ifCond .lt 13, 3) := by decide +kernel
theorem DX12_tries_21 : decode jX12_tries.2.1 21 = .ok (.iload 6, 2) := by decide +kernel
theorem DX12_tries_23 : decode jX12_tries.2.1 23 = .ok (.aload_n 0, 1) := by decide +kernel
theorem DX12_tries_24 : decode jX12_tries.2.1 24 = .ok (.getfield 222, 3) := by decide +kernel
theorem DX12_tries_27 : decode jX12_tries.2.1 27 = .ok (.if_icmp .lt 4, 3) := by decide +kernel
theorem DX12_tries_30 : decode jX12_tries.2.1 30 = .ok (.return_, 1) := by decide +kernel
theorem DX12_tries_31 : decode jX12_tries.2.1 31 = .ok (.aload_n 0, 1) := by decide +kernel
theorem DX12_tries_32 : decode jX12_tries.2.1 32 = .ok (.iload 6, 2) := by decide +kernel
theorem DX12_tries_34 : decode jX12_tries.2.1 34 = .ok (.putfield 222, 3) := by decide +kernel
theorem DX12_tries_37 : decode jX12_tries.2.1 37 = .ok (.iconst 0, 1) := by decide +kernel
theorem DX12_tries_38 : decode jX12_tries.2.1 38 = .ok (.istore 7, 2) := by decide +kernel
theorem DX12_tries_40 : decode jX12_tries.2.1 40 = .ok (.iload 7, 2) := by decide +kernel
theorem DX12_tries_42 : decode jX12_tries.2.1 42 = .ok (.iload_n 1, 1) := by decide +kernel
theorem DX12_tries_43 : decode jX12_tries.2.1 43 = .ok (.if_icmp .ge 23, 3) := by decide +kernel
theorem DX12_tries_46 : decode jX12_tries.2.1 46 = .ok (.aload_n 0, 1) := by decide +kernel
theorem DX12_tries_47 : decode jX12_tries.2.1 47 = .ok (.getfield 104, 3) := by decide +kernel
theorem DX12_tries_50 : decode jX12_tries.2.1 50 = .ok (.iload 7, 2) := by decide +kernel
theorem DX12_tries_52 : decode jX12_tries.2.1 52 = .ok (.aload_n 0, 1) := by decide +kernel
theorem DX12_tries_53 : decode jX12_tries.2.1 53 = .ok (.getfield 101, 3) := by decide +kernel
theorem DX12_tries_56 : decode jX12_tries.2.1 56 = .ok (.iload 7, 2) := by decide +kernel
theorem DX12_tries_58 : decode jX12_tries.2.1 58 = .ok (.iaload, 1) := by decide +kernel
theorem DX12_tries_59 : decode jX12_tries.2.1 59 = .ok (.iastore, 1) := by decide +kernel
theorem DX12_tries_60 : decode jX12_tries.2.1 60 = .ok (.iinc 7 1, 3) := by decide +kernel
theorem DX12_tries_63 : decode jX12_tries.2.1 63 = .ok (.goto (-23), 3) := by decide +kernel
theorem DX12_tries_66 : decode jX12_tries.2.1 66 = .ok (.return_, 1) := by decide +kernel
theorem DX12_tries_67 : decode jX12_tries.2.1 67 = .ok (.iconst 0, 1) := by decide +kernel
theorem DX12_tries_68 : decode jX12_tries.2.1 68 = .ok (.istore 6, 2) := by decide +kernel
theorem DX12_tries_70 : decode jX12_tries.2.1 70 = .ok (.iload 6, 2) := by decide +kernel
theorem DX12_tries_72 : decode jX12_tries.2.1 72 = .ok (.aload_n 0, 1) := by decide +kernel
theorem DX12_tries_73 : decode jX12_tries.2.1 73 = .ok (.getfield 216, 3) := by decide +kernel
theorem DX12_tries_76 : decode jX12_tries.2.1 76 = .ok (.if_icmp .ge 239, 3) := by decide +kernel
theorem DX12_tries_79 : decode jX12_tries.2.1 79 = .ok (.iload_n 3, 1) := by decide +kernel
theorem DX12_tries_80 : decode jX12_tries.2.1 80 = .ok (.iload 6, 2) := by decide +kernel
theorem DX12_tries_82 : decode jX12_tries.2.1 82 = .ok (.ishr, 1) := by decide +kernel
theorem DX12_tries_83 : decode jX12_tries.2.1 83 = .ok (.iconst 1, 1) := by decide +kernel
theorem DX12_tries_84 : decode jX12_tries.2.1 84 = .ok (.iand, 1) := by decide +kernel
theorem DX12_tries_85 : decode jX12_tries.2.1 85 = .ok (.iconst 1, 1) := by decide +kernel
theorem DX12_tries_86 : decode jX12_tries.2.1 86 = .ok (.if_icmp .eq 223, 3) := by decide +kernel
theorem DX12_tries_89 : decode jX12_tries.2.1 89 = .ok (.aload_n 0, 1) := by decide +kernel
theorem DX12_tries_90 : decode jX12_tries.2.1 90 = .ok (.getfield 98, 3) := by decide +kernel
theorem DX12_tries_93 : decode jX12_tries.2.1 93 = .ok (.iload 6, 2) := by decide +kernel
theorem DX12_tries_95 : decode jX12_tries.2.1 95 = .ok (.iaload, 1) := by decide +kernel
theorem DX12_tries_96 : decode jX12_tries.2.1 96 = .ok (.iload_n 3, 1) := by decide +kernel
theorem DX12_tries_97 : decode jX12_tries.2.1 97 = .ok (.iconst (-1), 1) := by decide +kernel
theorem DX12_tries_98 : decode jX12_tries.2.1 98 = .ok (.ixor, 1) := by decide +kernel
theorem DX12_tries_99 : decode jX12_tries.2.1 99 = .ok (.iand, 1) := by decide +kernel
theorem DX12_tries_100 : decode jX12_tries.2.1 100 = .ok (.ifCond .eq 6, 3) := by decide +kernel
theorem DX12_tries_103 : decode jX12_tries.2.1 103 = .ok (.goto 206, 3) := by decide +kernel
theorem DX12_tries_106 : decode jX12_tries.2.1 106 = .ok (.iconst 1, 1) := by decide +kernel
theorem DX12_tries_107 : decode jX12_tries.2.1 107 = .ok (.aload_n 0, 1) := by decide +kernel
theorem DX12_tries_108 : decode jX12_tries.2.1 108 = .ok (.getfield 89, 3) := by decide +kernel
theorem DX12_tries_111 : decode jX12_tries.2.1 111 = .ok (.iload 6, 2) := by decide +kernel
theorem DX12_tries_113 : decode jX12_tries.2.1 113 = .ok (.iaload, 1) := by decide +kernel
theorem DX12_tries_114 : decode jX12_tries.2.1 114 = .ok (.ishl, 1) := by decide +kernel
theorem DX12_tries_115 : decode jX12_tries.2.1 115 = .ok (.istore 7, 2) := by decide +kernel
theorem DX12_tries_117 : decode jX12_tries.2.1 117 = .ok (.iload_n 2, 1) := by decide +kernel
theorem DX12_tries_118 : decode jX12_tries.2.1 118 = .ok (.iload 7, 2) := by decide +kernel
theorem DX12_tries_120 : decode jX12_tries.2.1 120 = .ok (.iand, 1) := by decide +kernel
theorem DX12_tries_121 : decode jX12_tries.2.1 121 = .ok (.ifCond .eq 7, 3) := by decide +kernel
theorem DX12_tries_124 : decode jX12_tries.2.1 124 = .ok (.iconst 1, 1) := by decide +kernel
theorem DX12_tries_125 : decode jX12_tries.2.1 125 = .ok (.goto 4, 3) := by decide +kernel
theorem DX12_tries_128 : decode jX12_tries.2.1 128 = .ok (.iconst 0, 1) := by decide +kernel
theorem DX12_tries_129 : decode jX12_tries.2.1 129 = .ok (.istore 8, 2) := by decide +kernel
theorem DX12_tries_131 : decode jX12_tries.2.1 131 = .ok (.aload_n 0, 1) := by decide +kernel
theorem DX12_tries_132 : decode jX12_tries.2.1 132 = .ok (.getfield 86, 3) := by decide +kernel
theorem DX12_tries_135 : decode jX12_tries.2.1 135 = .ok (.iload 6, 2) := by decide +kernel
theorem DX12_tries_137 : decode jX12_tries.2.1 137 = .ok (.iaload, 1) := by decide +kernel
theorem DX12_tries_138 : decode jX12_tries.2.1 138 = .ok (.istore 9, 2) := by decide +kernel
theorem DX12_tries_140 : decode jX12_tries.2.1 140 = .ok (.iload 9, 2) := by decide +kernel
theorem DX12_tries_142 : decode jX12_tries.2.1 142 = .ok (.ifCond .ne 11, 3) := by decide +kernel
theorem DX12_tries_145 : decode jX12_tries.2.1 145 = .ok (.iload 8, 2) := by decide +kernel
theorem DX12_tries_147 : decode jX12_tries.2.1 147 = .ok (.ifCond .eq 14, 3) := by decide +kernel
theorem DX12_tries_150 : decode jX12_tries.2.1 150 = .ok (.goto 159, 3) := by decide +kernel
theorem DX12_tries_153 : decode jX12_tries.2.1 153 = .ok (.iload 8, 2) := by decide +kernel
theorem DX12_tries_155 : decode jX12_tries.2.1 155 = .ok (.ifCond .ne 6, 3) := by decide +kernel
theorem DX12_tries_158 : decode jX12_tries.2.1 158 = .ok (.goto 151, 3) := by decide +kernel
theorem DX12_tries_161 : decode jX12_tries.2.1 161 = .ok (.iload 9, 2) := by decide +kernel
theorem DX12_tries_163 : decode jX12_tries.2.1 163 = .ok (.ifCond .ne 10, 3) := by decide +kernel
theorem DX12_tries_166 : decode jX12_tries.2.1 166 = .ok (.iload_n 2, 1) := by decide +kernel
theorem DX12_tries_167 : decode jX12_tries.2.1 167 = .ok (.iload 7, 2) := by decide +kernel
theorem DX12_tries_169 : decode jX12_tries.2.1 169 = .ok (.ior, 1) := by decide +kernel
theorem DX12_tries_170 : decode jX12_tries.2.1 170 = .ok (.goto 19, 3) := by decide +kernel
theorem DX12_tries_173 : decode jX12_tries.2.1 173 = .ok (.iload 9, 2) := by decide +kernel
theorem DX12_tries_175 : decode jX12_tries.2.1 175 = .ok (.iconst 1, 1) := by decide +kernel
theorem DX12_tries_176 : decode jX12_tries.2.1 176 = .ok (.if_icmp .ne 12, 3) := by decide +kernel
theorem DX12_tries_179 : decode jX12_tries.2.1 179 = .ok (.iload_n 2, 1) := by decide +kernel
theorem DX12_tries_180 : decode jX12_tries.2.1 180 = .ok (.iload 7, 2) := by decide +kernel
theorem DX12_tries_182 : decode jX12_tries.2.1 182 = .ok (.iconst (-1), 1) := by decide +kernel
theorem DX12_tries_183 : decode jX12_tries.2.1 183 = .ok (.ixor, 1) := by decide +kernel
theorem DX12_tries_184 : decode jX12_tries.2.1 184 = .ok (.iand, 1) := by decide +kernel
theorem DX12_tries_185 : decode jX12_tries.2.1 185 = .ok (.goto 4, 3) := by decide +kernel
theorem DX12_tries_188 : decode jX12_tries.2.1 188 = .ok (.iload_n 2, 1) := by decide +kernel
theorem DX12_tries_189 : decode jX12_tries.2.1 189 = .ok (.istore 10, 2) := by decide +kernel
theorem DX12_tries_191 : decode jX12_tries.2.1 191 = .ok (.iload 9, 2) := by decide +kernel
theorem DX12_tries_193 : decode jX12_tries.2.1 193 = .ok (.iconst 2, 1) := by decide +kernel
theorem DX12_tries_194 : decode jX12_tries.2.1 194 = .ok (.if_icmp .eq 14, 3) := by decide +kernel
theorem DX12_tries_197 : decode jX12_tries.2.1 197 = .ok (.iload 9, 2) := by decide +kernel
theorem DX12_tries_199 : decode jX12_tries.2.1 199 = .ok (.ifCond .ne 13, 3) := by decide +kernel
theorem DX12_tries_202 : decode jX12_tries.2.1 202 = .ok (.iload 4, 2) := by decide +kernel
theorem DX12_tries_204 : decode jX12_tries.2.1 204 = .ok (.iconst 2, 1) := by decide +kernel
theorem DX12_tries_205 : decode jX12_tries.2.1 205 = .ok (.if_icmp .lt 7, 3) := by decide +kernel
theorem DX12_tries_208 : decode jX12_tries.2.1 208 = .ok (.iconst 1, 1) := by decide +kernel
theorem DX12_tries_209 : decode jX12_tries.2.1 209 = .ok (.goto 4, 3) := by decide +kernel
theorem DX12_tries_212 : decode jX12_tries.2.1 212 = .ok (.iconst 0, 1) := by decide +kernel
theorem DX12_tries_213 : decode jX12_tries.2.1 213 = .ok (.istore 11, 2) := by decide +kernel
theorem DX12_tries_215 : decode jX12_tries.2.1 215 = .ok (.iload 9, 2) := by decide +kernel
theorem DX12_tries_217 : decode jX12_tries.2.1 217 = .ok (.iconst 1, 1) := by decide +kernel
theorem DX12_tries_218 : decode jX12_tries.2.1 218 = .ok (.if_icmp .eq 8, 3) := by decide +kernel
theorem DX12_tries_221 : decode jX12_tries.2.1 221 = .ok (.iload 5, 2) := by decide +kernel
theorem DX12_tries_223 : decode jX12_tries.2.1 223 = .ok (.ifCond .ne 86, 3) := by decide +kernel
theorem DX12_tries_226 : decode jX12_tries.2.1 226 = .ok (.iload 11, 2) := by decide +kernel
theorem DX12_tries_228 : decode jX12_tries.2.1 228 = .ok (.ifCond .eq 20, 3) := by decide +kernel
theorem DX12_tries_231 : decode jX12_tries.2.1 231 = .ok (.iload 10, 2) := by decide +kernel
theorem DX12_tries_233 : decode jX12_tries.2.1 233 = .ok (.iload 7, 2) := by decide +kernel
theorem DX12_tries_235 : decode jX12_tries.2.1 235 = .ok (.iconst (-1), 1) := by decide +kernel
theorem DX12_tries_236 : decode jX12_tries.2.1 236 = .ok (.ixor, 1) := by decide +kernel
theorem DX12_tries_237 : decode jX12_tries.2.1 237 = .ok (.iand, 1) := by decide +kernel
theorem DX12_tries_238 : decode jX12_tries.2.1 238 = .ok (.invokestatic 225, 3) := by decide +kernel
theorem DX12_tries_241 : decode jX12_tries.2.1 241 = .ok (.iconst 2, 1) := by decide +kernel
theorem DX12_tries_242 : decode jX12_tries.2.1 242 = .ok (.if_icmp .ge 6, 3) := by decide +kernel
theorem DX12_tries_245 : decode jX12_tries.2.1 245 = .ok (.goto 64, 3) := by decide +kernel
theorem DX12_tries_248 : decode jX12_tries.2.1 248 = .ok (.aload_n 0, 1) := by decide +kernel
theorem DX12_tries_249 : decode jX12_tries.2.1 249 = .ok (.getfield 101, 3) := by decide +kernel
theorem DX12_tries_252 : decode jX12_tries.2.1 252 = .ok (.iload_n 1, 1) := by decide +kernel
theorem DX12_tries_253 : decode jX12_tries.2.1 253 = .ok (.iload 6, 2) := by decide +kernel
theorem DX12_tries_255 : decode jX12_tries.2.1 255 = .ok (.iastore, 1) := by decide +kernel
theorem DX12_tries_256 : decode jX12_tries.2.1 256 = .ok (.aload_n 0, 1) := by decide +kernel
theorem DX12_tries_257 : decode jX12_tries.2.1 257 = .ok (.iload_n 1, 1) := by decide +kernel
theorem DX12_tries_258 : decode jX12_tries.2.1 258 = .ok (.iconst 1, 1) := by decide +kernel
theorem DX12_tries_259 : decode jX12_tries.2.1 259 = .ok (.iadd, 1) := by decide +kernel
theorem DX12_tries_260 : decode jX12_tries.2.1 260 = .ok (.iload 10, 2) := by decide +kernel
theorem DX12_tries_262 : decode jX12_tries.2.1 262 = .ok (.iload_n 3, 1) := by decide +kernel
theorem DX12_tries_263 : decode jX12_tries.2.1 263 = .ok (.iconst 1, 1) := by decide +kernel
theorem DX12_tries_264 : decode jX12_tries.2.1 264 = .ok (.iload 6, 2) := by decide +kernel
theorem DX12_tries_266 : decode jX12_tries.2.1 266 = .ok (.ishl, 1) := by decide +kernel
theorem DX12_tries_267 : decode jX12_tries.2.1 267 = .ok (.ior, 1) := by decide +kernel
theorem DX12_tries_268 : decode jX12_tries.2.1 268 = .ok (.iload 4, 2) := by decide +kernel
theorem DX12_tries_270 : decode jX12_tries.2.1 270 = .ok (.iload 9, 2) := by decide +kernel
theorem DX12_tries_272 : decode jX12_tries.2.1 272 = .ok (.ifCond .ne 7, 3) := by decide +kernel
theorem DX12_tries_275 : decode jX12_tries.2.1 275 = .ok (.iconst 1, 1) := by decide +kernel
theorem DX12_tries_276 : decode jX12_tries.2.1 276 = .ok (.goto 4, 3) := by decide +kernel
theorem DX12_tries_279 : decode jX12_tries.2.1 279 = .ok (.iconst 0, 1) := by decide +kernel
theorem DX12_tries_280 : decode jX12_tries.2.1 280 = .ok (.iadd, 1) := by decide +kernel
theorem DX12_tries_281 : decode jX12_tries.2.1 281 = .ok (.iload 5, 2) := by decide +kernel
theorem DX12_tries_283 : decode jX12_tries.2.1 283 = .ok (.ifCond .ne 18, 3) := by decide +kernel
theorem DX12_tries_286 : decode jX12_tries.2.1 286 = .ok (.iload 9, 2) := by decide +kernel
theorem DX12_tries_288 : decode jX12_tries.2.1 288 = .ok (.iconst 1, 1) := by decide +kernel
theorem DX12_tries_289 : decode jX12_tries.2.1 289 = .ok (.if_icmp .ne 16, 3) := by decide +kernel
theorem DX12_tries_292 : decode jX12_tries.2.1 292 = .ok (.iload 10, 2) := by decide +kernel
theorem DX12_tries_294 : decode jX12_tries.2.1 294 = .ok (.invokestatic 225, 3) := by decide +kernel
theorem DX12_tries_297 : decode jX12_tries.2.1 297 = .ok (.iconst 2, 1) := by decide +kernel
theorem DX12_tries_298 : decode jX12_tries.2.1 298 = .ok (.if_icmp .ge 7, 3) := by decide +kernel
theorem DX12_tries_301 : decode jX12_tries.2.1 301 = .ok (.iconst 1, 1) := by decide +kernel
theorem DX12_tries_302 : decode jX12_tries.2.1 302 = .ok (.goto 4, 3) := by decide +kernel
theorem DX12_tries_305 : decode jX12_tries.2.1 305 = .ok (.iconst 0, 1) := by decide +kernel
theorem DX12_tries_306 : decode jX12_tries.2.1 306 = .ok (.invokevirtual 228, 3) := by decide +kernel
theorem DX12_tries_309 : decode jX12_tries.2.1 309 = .ok (.iinc 6 1, 3) := by decide +kernel
theorem DX12_tries_312 : decode jX12_tries.2.1 312 = .ok (.goto (-242), 3) := by decide +kernel
theorem DX12_tries_315 : decode jX12_tries.2.1 315 = .ok (.return_, 1) := by decide +kernel
theorem DX12_plans_0 : decode jX12_plans.2.1 0 = .ok (.aload_n 0, 1) := by decide +kernel
theorem DX12_plans_1 : decode jX12_plans.2.1 1 = .ok (.iconst (-1), 1) := by decide +kernel
theorem DX12_plans_2 : decode jX12_plans.2.1 2 = .ok (.putfield 222, 3) := by decide +kernel
theorem DX12_plans_5 : decode jX12_plans.2.1 5 = .ok (.iconst 0, 1) := by decide +kernel
theorem DX12_plans_6 : decode jX12_plans.2.1 6 = .ok (.istore_n 1, 1) := by decide +kernel
theorem DX12_plans_7 : decode jX12_plans.2.1 7 = .ok (.iconst 0, 1) := by decide +kernel
theorem DX12_plans_8 : decode jX12_plans.2.1 8 = .ok (.istore_n 2, 1) := by decide +kernel
theorem DX12_plans_9 : decode jX12_plans.2.1 9 = .ok (.iload_n 2, 1) := by decide +kernel
theorem DX12_plans_10 : decode jX12_plans.2.1 10 = .ok (.bipush 6, 2) := by decide +kernel
theorem DX12_plans_12 : decode jX12_plans.2.1 12 = .ok (.if_icmp .ge 28, 3) := by decide +kernel
theorem DX12_plans_15 : decode jX12_plans.2.1 15 = .ok (.iload_n 1, 1) := by decide +kernel
theorem DX12_plans_16 : decode jX12_plans.2.1 16 = .ok (.aload_n 0, 1) := by decide +kernel
theorem DX12_plans_17 : decode jX12_plans.2.1 17 = .ok (.getfield 65, 3) := by decide +kernel
theorem DX12_plans_20 : decode jX12_plans.2.1 20 = .ok (.iload_n 2, 1) := by decide +kernel
theorem DX12_plans_21 : decode jX12_plans.2.1 21 = .ok (.iaload, 1) := by decide +kernel
theorem DX12_plans_22 : decode jX12_plans.2.1 22 = .ok (.ifCond .lt 9, 3) := by decide +kernel
theorem DX12_plans_25 : decode jX12_plans.2.1 25 = .ok (.iconst 1, 1) := by decide +kernel
theorem DX12_plans_26 : decode jX12_plans.2.1 26 = .ok (.iload_n 2, 1) := by decide +kernel
theorem DX12_plans_27 : decode jX12_plans.2.1 27 = .ok (.ishl, 1) := by decide +kernel
theorem DX12_plans_28 : decode jX12_plans.2.1 28 = .ok (.goto 4, 3) := by decide +kernel
theorem DX12_plans_31 : decode jX12_plans.2.1 31 = .ok (.iconst 0, 1) := by decide +kernel
theorem DX12_plans_32 : decode jX12_plans.2.1 32 = .ok (.ior, 1) := by decide +kernel
theorem DX12_plans_33 : decode jX12_plans.2.1 33 = .ok (.istore_n 1, 1) := by decide +kernel
theorem DX12_plans_34 : decode jX12_plans.2.1 34 = .ok (.iinc 2 1, 3) := by decide +kernel
theorem DX12_plans_37 : decode jX12_plans.2.1 37 = .ok (.goto (-28), 3) := by decide +kernel
theorem DX12_plans_40 : decode jX12_plans.2.1 40 = .ok (.iconst 1, 1) := by decide +kernel
theorem DX12_plans_41 : decode jX12_plans.2.1 41 = .ok (.istore_n 2, 1) := by decide +kernel
theorem DX12_plans_42 : decode jX12_plans.2.1 42 = .ok (.iconst 0, 1) := by decide +kernel
theorem DX12_plans_43 : decode jX12_plans.2.1 43 = .ok (.istore_n 3, 1) := by decide +kernel
theorem DX12_plans_44 : decode jX12_plans.2.1 44 = .ok (.iload_n 3, 1) := by decide +kernel
theorem DX12_plans_45 : decode jX12_plans.2.1 45 = .ok (.aload_n 0, 1) := by decide +kernel
theorem DX12_plans_46 : decode jX12_plans.2.1 46 = .ok (.getfield 216, 3) := by decide +kernel
theorem DX12_plans_49 : decode jX12_plans.2.1 49 = .ok (.if_icmp .ge 32, 3) := by decide +kernel
theorem DX12_plans_52 : decode jX12_plans.2.1 52 = .ok (.iload_n 2, 1) := by decide +kernel
theorem DX12_plans_53 : decode jX12_plans.2.1 53 = .ok (.ifCond .eq 20, 3) := by decide +kernel
theorem DX12_plans_56 : decode jX12_plans.2.1 56 = .ok (.aload_n 0, 1) := by decide +kernel
theorem DX12_plans_57 : decode jX12_plans.2.1 57 = .ok (.getfield 95, 3) := by decide +kernel
theorem DX12_plans_60 : decode jX12_plans.2.1 60 = .ok (.iload_n 3, 1) := by decide +kernel
theorem DX12_plans_61 : decode jX12_plans.2.1 61 = .ok (.iaload, 1) := by decide +kernel
theorem DX12_plans_62 : decode jX12_plans.2.1 62 = .ok (.aload_n 0, 1) := by decide +kernel
theorem DX12_plans_63 : decode jX12_plans.2.1 63 = .ok (.invokevirtual 155, 3) := by decide +kernel
theorem DX12_plans_66 : decode jX12_plans.2.1 66 = .ok (.if_icmp .gt 7, 3) := by decide +kernel
theorem DX12_plans_69 : decode jX12_plans.2.1 69 = .ok (.iconst 1, 1) := by decide +kernel
theorem DX12_plans_70 : decode jX12_plans.2.1 70 = .ok (.goto 4, 3) := by decide +kernel
theorem DX12_plans_73 : decode jX12_plans.2.1 73 = .ok (.iconst 0, 1) := by decide +kernel
theorem DX12_plans_74 : decode jX12_plans.2.1 74 = .ok (.istore_n 2, 1) := by decide +kernel
theorem DX12_plans_75 : decode jX12_plans.2.1 75 = .ok (.iinc 3 1, 3) := by decide +kernel
theorem DX12_plans_78 : decode jX12_plans.2.1 78 = .ok (.goto (-34), 3) := by decide +kernel
theorem DX12_plans_81 : decode jX12_plans.2.1 81 = .ok (.iload_n 2, 1) := by decide +kernel
theorem DX12_plans_82 : decode jX12_plans.2.1 82 = .ok (.ifCond .eq 12, 3) := by decide +kernel
theorem DX12_plans_85 : decode jX12_plans.2.1 85 = .ok (.aload_n 0, 1) := by decide +kernel
theorem DX12_plans_86 : decode jX12_plans.2.1 86 = .ok (.iconst 0, 1) := by decide +kernel
theorem DX12_plans_87 : decode jX12_plans.2.1 87 = .ok (.iload_n 1, 1) := by decide +kernel
theorem DX12_plans_88 : decode jX12_plans.2.1 88 = .ok (.iconst 0, 1) := by decide +kernel
theorem DX12_plans_89 : decode jX12_plans.2.1 89 = .ok (.iconst 0, 1) := by decide +kernel
theorem DX12_plans_90 : decode jX12_plans.2.1 90 = .ok (.iconst 0, 1) := by decide +kernel
theorem DX12_plans_91 : decode jX12_plans.2.1 91 = .ok (.invokevirtual 228, 3) := by decide +kernel
theorem DX12_plans_94 : decode jX12_plans.2.1 94 = .ok (.return_, 1) := by decide +kernel
theorem DX12_plan_0 : decode jX12_plan.2.1 0 = .ok (.aload_n 0, 1) := by decide +kernel
theorem DX12_plan_1 : decode jX12_plan.2.1 1 = .ok (.getfield 216, 3) := by decide +kernel
theorem DX12_plan_4 : decode jX12_plan.2.1 4 = .ok (.bipush 8, 2) := by decide +kernel
theorem DX12_plan_6 : decode jX12_plan.2.1 6 = .ok (.if_icmp .le 10, 3) := by decide +kernel
theorem DX12_plan_9 : decode jX12_plan.2.1 9 = .ok (.aload_n 0, 1) := by decide +kernel
theorem DX12_plan_10 : decode jX12_plan.2.1 10 = .ok (.bipush (-6), 2) := by decide +kernel
theorem DX12_plan_12 : decode jX12_plan.2.1 12 = .ok (.invokevirtual 120, 3) := by decide +kernel
theorem DX12_plan_15 : decode jX12_plan.2.1 15 = .ok (.ireturn, 1) := by decide +kernel
theorem DX12_plan_16 : decode jX12_plan.2.1 16 = .ok (.aload_n 0, 1) := by decide +kernel
theorem DX12_plan_17 : decode jX12_plan.2.1 17 = .ok (.invokevirtual 232, 3) := by decide +kernel
theorem DX12_plan_20 : decode jX12_plan.2.1 20 = .ok (.aload_n 0, 1) := by decide +kernel
theorem DX12_plan_21 : decode jX12_plan.2.1 21 = .ok (.getfield 222, 3) := by decide +kernel
theorem DX12_plan_24 : decode jX12_plan.2.1 24 = .ok (.ifCond .ge 8, 3) := by decide +kernel
theorem DX12_plan_27 : decode jX12_plan.2.1 27 = .ok (.bipush (-9), 2) := by decide +kernel
theorem DX12_plan_29 : decode jX12_plan.2.1 29 = .ok (.goto 7, 3) := by decide +kernel
theorem DX12_plan_32 : decode jX12_plan.2.1 32 = .ok (.aload_n 0, 1) := by decide +kernel
theorem DX12_plan_33 : decode jX12_plan.2.1 33 = .ok (.getfield 222, 3) := by decide +kernel
theorem DX12_plan_36 : decode jX12_plan.2.1 36 = .ok (.ireturn, 1) := by decide +kernel
theorem DX12_planAt_0 : decode jX12_planAt.2.1 0 = .ok (.aload_n 0, 1) := by decide +kernel
theorem DX12_planAt_1 : decode jX12_planAt.2.1 1 = .ok (.getfield 216, 3) := by decide +kernel
theorem DX12_planAt_4 : decode jX12_planAt.2.1 4 = .ok (.bipush 8, 2) := by decide +kernel
theorem DX12_planAt_6 : decode jX12_planAt.2.1 6 = .ok (.if_icmp .le 10, 3) := by decide +kernel
theorem DX12_planAt_9 : decode jX12_planAt.2.1 9 = .ok (.aload_n 0, 1) := by decide +kernel
theorem DX12_planAt_10 : decode jX12_planAt.2.1 10 = .ok (.bipush (-6), 2) := by decide +kernel
theorem DX12_planAt_12 : decode jX12_planAt.2.1 12 = .ok (.invokevirtual 120, 3) := by decide +kernel
theorem DX12_planAt_15 : decode jX12_planAt.2.1 15 = .ok (.ireturn, 1) := by decide +kernel
theorem DX12_planAt_16 : decode jX12_planAt.2.1 16 = .ok (.aload_n 0, 1) := by decide +kernel
theorem DX12_planAt_17 : decode jX12_planAt.2.1 17 = .ok (.invokevirtual 232, 3) := by decide +kernel
theorem DX12_planAt_20 : decode jX12_planAt.2.1 20 = .ok (.aload_n 0, 1) := by decide +kernel
theorem DX12_planAt_21 : decode jX12_planAt.2.1 21 = .ok (.getfield 222, 3) := by decide +kernel
theorem DX12_planAt_24 : decode jX12_planAt.2.1 24 = .ok (.ifCond .lt 23, 3) := by decide +kernel
theorem DX12_planAt_27 : decode jX12_planAt.2.1 27 = .ok (.iload_n 1, 1) := by decide +kernel
theorem DX12_planAt_28 : decode jX12_planAt.2.1 28 = .ok (.aload_n 0, 1) := by decide +kernel
theorem DX12_planAt_29 : decode jX12_planAt.2.1 29 = .ok (.getfield 216, 3) := by decide +kernel
theorem DX12_planAt_32 : decode jX12_planAt.2.1 32 = .ok (.invokestatic 124, 3) := by decide +kernel
theorem DX12_planAt_35 : decode jX12_planAt.2.1 35 = .ok (.ifCond .eq 12, 3) := by decide +kernel
theorem DX12_planAt_38 : decode jX12_planAt.2.1 38 = .ok (.aload_n 0, 1) := by decide +kernel
theorem DX12_planAt_39 : decode jX12_planAt.2.1 39 = .ok (.getfield 104, 3) := by decide +kernel
theorem DX12_planAt_42 : decode jX12_planAt.2.1 42 = .ok (.iload_n 1, 1) := by decide +kernel
theorem DX12_planAt_43 : decode jX12_planAt.2.1 43 = .ok (.iaload, 1) := by decide +kernel
theorem DX12_planAt_44 : decode jX12_planAt.2.1 44 = .ok (.goto 5, 3) := by decide +kernel
theorem DX12_planAt_47 : decode jX12_planAt.2.1 47 = .ok (.bipush (-9), 2) := by decide +kernel
theorem DX12_planAt_49 : decode jX12_planAt.2.1 49 = .ok (.ireturn, 1) := by decide +kernel
theorem DX12_person_0 : decode jX12_person.2.1 0 = .ok (.iload_n 1, 1) := by decide +kernel
theorem DX12_person_1 : decode jX12_person.2.1 1 = .ok (.iconst (-1), 1) := by decide +kernel
theorem DX12_person_2 : decode jX12_person.2.1 2 = .ok (.if_icmp .eq 20, 3) := by decide +kernel
theorem DX12_person_5 : decode jX12_person.2.1 5 = .ok (.iload_n 1, 1) := by decide +kernel
theorem DX12_person_6 : decode jX12_person.2.1 6 = .ok (.aload_n 0, 1) := by decide +kernel
theorem DX12_person_7 : decode jX12_person.2.1 7 = .ok (.getfield 235, 3) := by decide +kernel
theorem DX12_person_10 : decode jX12_person.2.1 10 = .ok (.invokestatic 124, 3) := by decide +kernel
theorem DX12_person_13 : decode jX12_person.2.1 13 = .ok (.ifCond .ne 9, 3) := by decide +kernel
theorem DX12_person_16 : decode jX12_person.2.1 16 = .ok (.aload_n 0, 1) := by decide +kernel
theorem DX12_person_17 : decode jX12_person.2.1 17 = .ok (.iconst (-1), 1) := by decide +kernel
theorem DX12_person_18 : decode jX12_person.2.1 18 = .ok (.invokevirtual 120, 3) := by decide +kernel
theorem DX12_person_21 : decode jX12_person.2.1 21 = .ok (.ireturn, 1) := by decide +kernel
theorem DX12_person_22 : decode jX12_person.2.1 22 = .ok (.iload_n 2, 1) := by decide +kernel
theorem DX12_person_23 : decode jX12_person.2.1 23 = .ok (.bipush (-60), 2) := by decide +kernel
theorem DX12_person_25 : decode jX12_person.2.1 25 = .ok (.if_icmp .ge 10, 3) := by decide +kernel
theorem DX12_person_28 : decode jX12_person.2.1 28 = .ok (.aload_n 0, 1) := by decide +kernel
theorem DX12_person_29 : decode jX12_person.2.1 29 = .ok (.bipush (-4), 2) := by decide +kernel
theorem DX12_person_31 : decode jX12_person.2.1 31 = .ok (.invokevirtual 120, 3) := by decide +kernel
theorem DX12_person_34 : decode jX12_person.2.1 34 = .ok (.ireturn, 1) := by decide +kernel
theorem DX12_person_35 : decode jX12_person.2.1 35 = .ok (.iload_n 2, 1) := by decide +kernel
theorem DX12_person_36 : decode jX12_person.2.1 36 = .ok (.bipush 60, 2) := by decide +kernel
theorem DX12_person_38 : decode jX12_person.2.1 38 = .ok (.if_icmp .gt 12, 3) := by decide +kernel
theorem DX12_person_41 : decode jX12_person.2.1 41 = .ok (.aload_n 0, 1) := by decide +kernel
theorem DX12_person_42 : decode jX12_person.2.1 42 = .ok (.getfield 235, 3) := by decide +kernel
theorem DX12_person_45 : decode jX12_person.2.1 45 = .ok (.bipush 30, 2) := by decide +kernel
theorem DX12_person_47 : decode jX12_person.2.1 47 = .ok (.if_icmp .ne 10, 3) := by decide +kernel
theorem DX12_person_50 : decode jX12_person.2.1 50 = .ok (.aload_n 0, 1) := by decide +kernel
theorem DX12_person_51 : decode jX12_person.2.1 51 = .ok (.bipush (-6), 2) := by decide +kernel
theorem DX12_person_53 : decode jX12_person.2.1 53 = .ok (.invokevirtual 120, 3) := by decide +kernel
theorem DX12_person_56 : decode jX12_person.2.1 56 = .ok (.ireturn, 1) := by decide +kernel
theorem DX12_person_57 : decode jX12_person.2.1 57 = .ok (.iload_n 1, 1) := by decide +kernel
theorem DX12_person_58 : decode jX12_person.2.1 58 = .ok (.ifCond .lt 20, 3) := by decide +kernel
theorem DX12_person_61 : decode jX12_person.2.1 61 = .ok (.iload_n 2, 1) := by decide +kernel
theorem DX12_person_62 : decode jX12_person.2.1 62 = .ok (.aload_n 0, 1) := by decide +kernel
theorem DX12_person_63 : decode jX12_person.2.1 63 = .ok (.getfield 113, 3) := by decide +kernel
theorem DX12_person_66 : decode jX12_person.2.1 66 = .ok (.iload_n 1, 1) := by decide +kernel
theorem DX12_person_67 : decode jX12_person.2.1 67 = .ok (.iaload, 1) := by decide +kernel
theorem DX12_person_68 : decode jX12_person.2.1 68 = .ok (.if_icmp .ge 10, 3) := by decide +kernel
theorem DX12_person_71 : decode jX12_person.2.1 71 = .ok (.aload_n 0, 1) := by decide +kernel
theorem DX12_person_72 : decode jX12_person.2.1 72 = .ok (.bipush (-3), 2) := by decide +kernel
theorem DX12_person_74 : decode jX12_person.2.1 74 = .ok (.invokevirtual 120, 3) := by decide +kernel
theorem DX12_person_77 : decode jX12_person.2.1 77 = .ok (.ireturn, 1) := by decide +kernel
theorem DX12_person_78 : decode jX12_person.2.1 78 = .ok (.aload_n 0, 1) := by decide +kernel
theorem DX12_person_79 : decode jX12_person.2.1 79 = .ok (.getfield 110, 3) := by decide +kernel
theorem DX12_person_82 : decode jX12_person.2.1 82 = .ok (.aload_n 0, 1) := by decide +kernel
theorem DX12_person_83 : decode jX12_person.2.1 83 = .ok (.getfield 235, 3) := by decide +kernel
theorem DX12_person_86 : decode jX12_person.2.1 86 = .ok (.iload_n 1, 1) := by decide +kernel
theorem DX12_person_87 : decode jX12_person.2.1 87 = .ok (.iastore, 1) := by decide +kernel
theorem DX12_person_88 : decode jX12_person.2.1 88 = .ok (.aload_n 0, 1) := by decide +kernel
theorem DX12_person_89 : decode jX12_person.2.1 89 = .ok (.getfield 113, 3) := by decide +kernel
theorem DX12_person_92 : decode jX12_person.2.1 92 = .ok (.aload_n 0, 1) := by decide +kernel
theorem DX12_person_93 : decode jX12_person.2.1 93 = .ok (.getfield 235, 3) := by decide +kernel
theorem DX12_person_96 : decode jX12_person.2.1 96 = .ok (.iload_n 2, 1) := by decide +kernel
theorem DX12_person_97 : decode jX12_person.2.1 97 = .ok (.iastore, 1) := by decide +kernel
theorem DX12_person_98 : decode jX12_person.2.1 98 = .ok (.aload_n 0, 1) := by decide +kernel
theorem DX12_person_99 : decode jX12_person.2.1 99 = .ok (.getfield 116, 3) := by decide +kernel
theorem DX12_person_102 : decode jX12_person.2.1 102 = .ok (.aload_n 0, 1) := by decide +kernel
theorem DX12_person_103 : decode jX12_person.2.1 103 = .ok (.getfield 235, 3) := by decide +kernel
theorem DX12_person_106 : decode jX12_person.2.1 106 = .ok (.iconst 1, 1) := by decide +kernel
theorem DX12_person_107 : decode jX12_person.2.1 107 = .ok (.bastore, 1) := by decide +kernel
theorem DX12_person_108 : decode jX12_person.2.1 108 = .ok (.aload_n 0, 1) := by decide +kernel
theorem DX12_person_109 : decode jX12_person.2.1 109 = .ok (.dup, 1) := by decide +kernel
theorem DX12_person_110 : decode jX12_person.2.1 110 = .ok (.getfield 235, 3) := by decide +kernel
theorem DX12_person_113 : decode jX12_person.2.1 113 = .ok (.iconst 1, 1) := by decide +kernel
theorem DX12_person_114 : decode jX12_person.2.1 114 = .ok (.iadd, 1) := by decide +kernel
theorem DX12_person_115 : decode jX12_person.2.1 115 = .ok (.putfield 235, 3) := by decide +kernel
theorem DX12_person_118 : decode jX12_person.2.1 118 = .ok (.aload_n 0, 1) := by decide +kernel
theorem DX12_person_119 : decode jX12_person.2.1 119 = .ok (.getfield 235, 3) := by decide +kernel
theorem DX12_person_122 : decode jX12_person.2.1 122 = .ok (.iconst 1, 1) := by decide +kernel
theorem DX12_person_123 : decode jX12_person.2.1 123 = .ok (.isub, 1) := by decide +kernel
theorem DX12_person_124 : decode jX12_person.2.1 124 = .ok (.ireturn, 1) := by decide +kernel
theorem DX12_lineOf_0 : decode jX12_lineOf.2.1 0 = .ok (.aload_n 0, 1) := by decide +kernel
theorem DX12_lineOf_1 : decode jX12_lineOf.2.1 1 = .ok (.getfield 116, 3) := by decide +kernel
theorem DX12_lineOf_4 : decode jX12_lineOf.2.1 4 = .ok (.iload_n 1, 1) := by decide +kernel
theorem DX12_lineOf_5 : decode jX12_lineOf.2.1 5 = .ok (.baload, 1) := by decide +kernel
theorem DX12_lineOf_6 : decode jX12_lineOf.2.1 6 = .ok (.ifCond .eq 21, 3) := by decide +kernel
theorem DX12_lineOf_9 : decode jX12_lineOf.2.1 9 = .ok (.aload_n 0, 1) := by decide +kernel
theorem DX12_lineOf_10 : decode jX12_lineOf.2.1 10 = .ok (.getfield 162, 3) := by decide +kernel
theorem DX12_lineOf_13 : decode jX12_lineOf.2.1 13 = .ok (.aload_n 0, 1) := by decide +kernel
theorem DX12_lineOf_14 : decode jX12_lineOf.2.1 14 = .ok (.getfield 113, 3) := by decide +kernel
theorem DX12_lineOf_17 : decode jX12_lineOf.2.1 17 = .ok (.iload_n 1, 1) := by decide +kernel
theorem DX12_lineOf_18 : decode jX12_lineOf.2.1 18 = .ok (.iaload, 1) := by decide +kernel
theorem DX12_lineOf_19 : decode jX12_lineOf.2.1 19 = .ok (.isub, 1) := by decide +kernel
theorem DX12_lineOf_20 : decode jX12_lineOf.2.1 20 = .ok (.bipush 20, 2) := by decide +kernel
theorem DX12_lineOf_22 : decode jX12_lineOf.2.1 22 = .ok (.if_icmp .lt 5, 3) := by decide +kernel
theorem DX12_lineOf_25 : decode jX12_lineOf.2.1 25 = .ok (.iload_n 1, 1) := by decide +kernel
theorem DX12_lineOf_26 : decode jX12_lineOf.2.1 26 = .ok (.ireturn, 1) := by decide +kernel
theorem DX12_lineOf_27 : decode jX12_lineOf.2.1 27 = .ok (.bipush (-9), 2) := by decide +kernel
theorem DX12_lineOf_29 : decode jX12_lineOf.2.1 29 = .ok (.istore_n 2, 1) := by decide +kernel
theorem DX12_lineOf_30 : decode jX12_lineOf.2.1 30 = .ok (.aload_n 0, 1) := by decide +kernel
theorem DX12_lineOf_31 : decode jX12_lineOf.2.1 31 = .ok (.iload_n 1, 1) := by decide +kernel
theorem DX12_lineOf_32 : decode jX12_lineOf.2.1 32 = .ok (.iconst (-1), 1) := by decide +kernel
theorem DX12_lineOf_33 : decode jX12_lineOf.2.1 33 = .ok (.invokevirtual 238, 3) := by decide +kernel
theorem DX12_lineOf_36 : decode jX12_lineOf.2.1 36 = .ok (.istore_n 3, 1) := by decide +kernel
theorem DX12_lineOf_37 : decode jX12_lineOf.2.1 37 = .ok (.iload_n 3, 1) := by decide +kernel
theorem DX12_lineOf_38 : decode jX12_lineOf.2.1 38 = .ok (.ifCond .lt 23, 3) := by decide +kernel
theorem DX12_lineOf_41 : decode jX12_lineOf.2.1 41 = .ok (.iload_n 2, 1) := by decide +kernel
theorem DX12_lineOf_42 : decode jX12_lineOf.2.1 42 = .ok (.ifCond .ge 19, 3) := by decide +kernel
theorem DX12_lineOf_45 : decode jX12_lineOf.2.1 45 = .ok (.aload_n 0, 1) := by decide +kernel
theorem DX12_lineOf_46 : decode jX12_lineOf.2.1 46 = .ok (.iload_n 3, 1) := by decide +kernel
theorem DX12_lineOf_47 : decode jX12_lineOf.2.1 47 = .ok (.invokevirtual 241, 3) := by decide +kernel
theorem DX12_lineOf_50 : decode jX12_lineOf.2.1 50 = .ok (.istore_n 2, 1) := by decide +kernel
theorem DX12_lineOf_51 : decode jX12_lineOf.2.1 51 = .ok (.aload_n 0, 1) := by decide +kernel
theorem DX12_lineOf_52 : decode jX12_lineOf.2.1 52 = .ok (.iload_n 1, 1) := by decide +kernel
theorem DX12_lineOf_53 : decode jX12_lineOf.2.1 53 = .ok (.iload_n 3, 1) := by decide +kernel
theorem DX12_lineOf_54 : decode jX12_lineOf.2.1 54 = .ok (.invokevirtual 238, 3) := by decide +kernel
theorem DX12_lineOf_57 : decode jX12_lineOf.2.1 57 = .ok (.istore_n 3, 1) := by decide +kernel
theorem DX12_lineOf_58 : decode jX12_lineOf.2.1 58 = .ok (.goto (-21), 3) := by decide +kernel
theorem DX12_lineOf_61 : decode jX12_lineOf.2.1 61 = .ok (.iload_n 2, 1) := by decide +kernel
theorem DX12_lineOf_62 : decode jX12_lineOf.2.1 62 = .ok (.ireturn, 1) := by decide +kernel
theorem DX12_isBefore_0 : decode jX12_isBefore.2.1 0 = .ok (.aload_n 0, 1) := by decide +kernel
theorem DX12_isBefore_1 : decode jX12_isBefore.2.1 1 = .ok (.getfield 113, 3) := by decide +kernel
theorem DX12_isBefore_4 : decode jX12_isBefore.2.1 4 = .ok (.iload_n 1, 1) := by decide +kernel
theorem DX12_isBefore_5 : decode jX12_isBefore.2.1 5 = .ok (.iaload, 1) := by decide +kernel
theorem DX12_isBefore_6 : decode jX12_isBefore.2.1 6 = .ok (.aload_n 0, 1) := by decide +kernel
theorem DX12_isBefore_7 : decode jX12_isBefore.2.1 7 = .ok (.getfield 113, 3) := by decide +kernel
theorem DX12_isBefore_10 : decode jX12_isBefore.2.1 10 = .ok (.iload_n 2, 1) := by decide +kernel
theorem DX12_isBefore_11 : decode jX12_isBefore.2.1 11 = .ok (.iaload, 1) := by decide +kernel
theorem DX12_isBefore_12 : decode jX12_isBefore.2.1 12 = .ok (.if_icmp .eq 26, 3) := by decide +kernel
theorem DX12_isBefore_15 : decode jX12_isBefore.2.1 15 = .ok (.aload_n 0, 1) := by decide +kernel
theorem DX12_isBefore_16 : decode jX12_isBefore.2.1 16 = .ok (.getfield 113, 3) := by decide +kernel
theorem DX12_isBefore_19 : decode jX12_isBefore.2.1 19 = .ok (.iload_n 1, 1) := by decide +kernel
theorem DX12_isBefore_20 : decode jX12_isBefore.2.1 20 = .ok (.iaload, 1) := by decide +kernel
theorem DX12_isBefore_21 : decode jX12_isBefore.2.1 21 = .ok (.aload_n 0, 1) := by decide +kernel
theorem DX12_isBefore_22 : decode jX12_isBefore.2.1 22 = .ok (.getfield 113, 3) := by decide +kernel
theorem DX12_isBefore_25 : decode jX12_isBefore.2.1 25 = .ok (.iload_n 2, 1) := by decide +kernel
theorem DX12_isBefore_26 : decode jX12_isBefore.2.1 26 = .ok (.iaload, 1) := by decide +kernel
theorem DX12_isBefore_27 : decode jX12_isBefore.2.1 27 = .ok (.if_icmp .ge 7, 3) := by decide +kernel
theorem DX12_isBefore_30 : decode jX12_isBefore.2.1 30 = .ok (.iconst 1, 1) := by decide +kernel
theorem DX12_isBefore_31 : decode jX12_isBefore.2.1 31 = .ok (.goto 17, 3) := by decide +kernel
theorem DX12_isBefore_34 : decode jX12_isBefore.2.1 34 = .ok (.iconst 0, 1) := by decide +kernel
theorem DX12_isBefore_35 : decode jX12_isBefore.2.1 35 = .ok (.goto 13, 3) := by decide +kernel
theorem DX12_isBefore_38 : decode jX12_isBefore.2.1 38 = .ok (.iload_n 1, 1) := by decide +kernel
theorem DX12_isBefore_39 : decode jX12_isBefore.2.1 39 = .ok (.iload_n 2, 1) := by decide +kernel
theorem DX12_isBefore_40 : decode jX12_isBefore.2.1 40 = .ok (.if_icmp .ge 7, 3) := by decide +kernel
theorem DX12_isBefore_43 : decode jX12_isBefore.2.1 43 = .ok (.iconst 1, 1) := by decide +kernel
theorem DX12_isBefore_44 : decode jX12_isBefore.2.1 44 = .ok (.goto 4, 3) := by decide +kernel
theorem DX12_isBefore_47 : decode jX12_isBefore.2.1 47 = .ok (.iconst 0, 1) := by decide +kernel
theorem DX12_isBefore_48 : decode jX12_isBefore.2.1 48 = .ok (.ireturn, 1) := by decide +kernel
theorem DX12_master_0 : decode jX12_master.2.1 0 = .ok (.bipush (-9), 2) := by decide +kernel
theorem DX12_master_2 : decode jX12_master.2.1 2 = .ok (.istore_n 1, 1) := by decide +kernel
theorem DX12_master_3 : decode jX12_master.2.1 3 = .ok (.iconst 0, 1) := by decide +kernel
theorem DX12_master_4 : decode jX12_master.2.1 4 = .ok (.istore_n 2, 1) := by decide +kernel
theorem DX12_master_5 : decode jX12_master.2.1 5 = .ok (.iload_n 2, 1) := by decide +kernel
theorem DX12_master_6 : decode jX12_master.2.1 6 = .ok (.aload_n 0, 1) := by decide +kernel
theorem DX12_master_7 : decode jX12_master.2.1 7 = .ok (.getfield 235, 3) := by decide +kernel
theorem DX12_master_10 : decode jX12_master.2.1 10 = .ok (.if_icmp .ge 29, 3) := by decide +kernel
theorem DX12_master_13 : decode jX12_master.2.1 13 = .ok (.iload_n 1, 1) := by decide +kernel
theorem DX12_master_14 : decode jX12_master.2.1 14 = .ok (.ifCond .ge 25, 3) := by decide +kernel
theorem DX12_master_17 : decode jX12_master.2.1 17 = .ok (.aload_n 0, 1) := by decide +kernel
theorem DX12_master_18 : decode jX12_master.2.1 18 = .ok (.getfield 110, 3) := by decide +kernel
theorem DX12_master_21 : decode jX12_master.2.1 21 = .ok (.iload_n 2, 1) := by decide +kernel
theorem DX12_master_22 : decode jX12_master.2.1 22 = .ok (.iaload, 1) := by decide +kernel
theorem DX12_master_23 : decode jX12_master.2.1 23 = .ok (.iconst (-1), 1) := by decide +kernel
theorem DX12_master_24 : decode jX12_master.2.1 24 = .ok (.if_icmp .ne 9, 3) := by decide +kernel
theorem DX12_master_27 : decode jX12_master.2.1 27 = .ok (.aload_n 0, 1) := by decide +kernel
theorem DX12_master_28 : decode jX12_master.2.1 28 = .ok (.iload_n 2, 1) := by decide +kernel
theorem DX12_master_29 : decode jX12_master.2.1 29 = .ok (.invokevirtual 241, 3) := by decide +kernel
theorem DX12_master_32 : decode jX12_master.2.1 32 = .ok (.istore_n 1, 1) := by decide +kernel
theorem DX12_master_33 : decode jX12_master.2.1 33 = .ok (.iinc 2 1, 3) := by decide +kernel
theorem DX12_master_36 : decode jX12_master.2.1 36 = .ok (.goto (-31), 3) := by decide +kernel
theorem DX12_master_39 : decode jX12_master.2.1 39 = .ok (.iload_n 1, 1) := by decide +kernel
theorem DX12_master_40 : decode jX12_master.2.1 40 = .ok (.ireturn, 1) := by decide +kernel
theorem DX12_ropeOf_0 : decode jX12_ropeOf.2.1 0 = .ok (.aload_n 0, 1) := by decide +kernel
theorem DX12_ropeOf_1 : decode jX12_ropeOf.2.1 1 = .ok (.iload_n 1, 1) := by decide +kernel
theorem DX12_ropeOf_2 : decode jX12_ropeOf.2.1 2 = .ok (.invokevirtual 185, 3) := by decide +kernel
theorem DX12_ropeOf_5 : decode jX12_ropeOf.2.1 5 = .ok (.ifCond .ne 9, 3) := by decide +kernel
theorem DX12_ropeOf_8 : decode jX12_ropeOf.2.1 8 = .ok (.aload_n 0, 1) := by decide +kernel
theorem DX12_ropeOf_9 : decode jX12_ropeOf.2.1 9 = .ok (.iconst (-1), 1) := by decide +kernel
theorem DX12_ropeOf_10 : decode jX12_ropeOf.2.1 10 = .ok (.invokevirtual 120, 3) := by decide +kernel
theorem DX12_ropeOf_13 : decode jX12_ropeOf.2.1 13 = .ok (.ireturn, 1) := by decide +kernel
theorem DX12_ropeOf_14 : decode jX12_ropeOf.2.1 14 = .ok (.iload_n 2, 1) := by decide +kernel
theorem DX12_ropeOf_15 : decode jX12_ropeOf.2.1 15 = .ok (.tableswitch 75 0 4 #[33, 40, 47, 61, 68], 33) := by decide +kernel
theorem DX12_ropeOf_48 : decode jX12_ropeOf.2.1 48 = .ok (.aload_n 0, 1) := by decide +kernel
theorem DX12_ropeOf_49 : decode jX12_ropeOf.2.1 49 = .ok (.getfield 44, 3) := by decide +kernel
theorem DX12_ropeOf_52 : decode jX12_ropeOf.2.1 52 = .ok (.iload_n 1, 1) := by decide +kernel
theorem DX12_ropeOf_53 : decode jX12_ropeOf.2.1 53 = .ok (.iaload, 1) := by decide +kernel
theorem DX12_ropeOf_54 : decode jX12_ropeOf.2.1 54 = .ok (.ireturn, 1) := by decide +kernel
theorem DX12_ropeOf_55 : decode jX12_ropeOf.2.1 55 = .ok (.aload_n 0, 1) := by decide +kernel
theorem DX12_ropeOf_56 : decode jX12_ropeOf.2.1 56 = .ok (.getfield 47, 3) := by decide +kernel
theorem DX12_ropeOf_59 : decode jX12_ropeOf.2.1 59 = .ok (.iload_n 1, 1) := by decide +kernel
theorem DX12_ropeOf_60 : decode jX12_ropeOf.2.1 60 = .ok (.iaload, 1) := by decide +kernel
theorem DX12_ropeOf_61 : decode jX12_ropeOf.2.1 61 = .ok (.ireturn, 1) := by decide +kernel
theorem DX12_ropeOf_62 : decode jX12_ropeOf.2.1 62 = .ok (.aload_n 0, 1) := by decide +kernel
theorem DX12_ropeOf_63 : decode jX12_ropeOf.2.1 63 = .ok (.iload_n 1, 1) := by decide +kernel
theorem DX12_ropeOf_64 : decode jX12_ropeOf.2.1 64 = .ok (.invokevirtual 188, 3) := by decide +kernel
theorem DX12_ropeOf_67 : decode jX12_ropeOf.2.1 67 = .ok (.ifCond .eq 7, 3) := by decide +kernel
theorem DX12_ropeOf_70 : decode jX12_ropeOf.2.1 70 = .ok (.iconst 1, 1) := by decide +kernel
theorem DX12_ropeOf_71 : decode jX12_ropeOf.2.1 71 = .ok (.goto 4, 3) := by decide +kernel
theorem DX12_ropeOf_74 : decode jX12_ropeOf.2.1 74 = .ok (.iconst 0, 1) := by decide +kernel
theorem DX12_ropeOf_75 : decode jX12_ropeOf.2.1 75 = .ok (.ireturn, 1) := by decide +kernel
theorem DX12_ropeOf_76 : decode jX12_ropeOf.2.1 76 = .ok (.aload_n 0, 1) := by decide +kernel
theorem DX12_ropeOf_77 : decode jX12_ropeOf.2.1 77 = .ok (.getfield 53, 3) := by decide +kernel
theorem DX12_ropeOf_80 : decode jX12_ropeOf.2.1 80 = .ok (.iload_n 1, 1) := by decide +kernel
theorem DX12_ropeOf_81 : decode jX12_ropeOf.2.1 81 = .ok (.iaload, 1) := by decide +kernel
theorem DX12_ropeOf_82 : decode jX12_ropeOf.2.1 82 = .ok (.ireturn, 1) := by decide +kernel
theorem DX12_ropeOf_83 : decode jX12_ropeOf.2.1 83 = .ok (.aload_n 0, 1) := by decide +kernel
theorem DX12_ropeOf_84 : decode jX12_ropeOf.2.1 84 = .ok (.getfield 50, 3) := by decide +kernel
theorem DX12_ropeOf_87 : decode jX12_ropeOf.2.1 87 = .ok (.iload_n 1, 1) := by decide +kernel
theorem DX12_ropeOf_88 : decode jX12_ropeOf.2.1 88 = .ok (.iaload, 1) := by decide +kernel
theorem DX12_ropeOf_89 : decode jX12_ropeOf.2.1 89 = .ok (.ireturn, 1) := by decide +kernel
theorem DX12_ropeOf_90 : decode jX12_ropeOf.2.1 90 = .ok (.aload_n 0, 1) := by decide +kernel
theorem DX12_ropeOf_91 : decode jX12_ropeOf.2.1 91 = .ok (.bipush (-2), 2) := by decide +kernel
theorem DX12_ropeOf_93 : decode jX12_ropeOf.2.1 93 = .ok (.invokevirtual 120, 3) := by decide +kernel
theorem DX12_ropeOf_96 : decode jX12_ropeOf.2.1 96 = .ok (.ireturn, 1) := by decide +kernel
