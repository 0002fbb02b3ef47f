/-! the law-/
theorem lix {t k : Nat} (h : 6 * t + k < 4000) : (nI (6 * t) + nI k).toNatClampNeg = 6 * t + k := by rw [nI_add, nI_cl1 (by omega)]
theorem lin {t k L : Nat} (h : 6 * t + k < L) (hL : L ≤ 3072) : gIn (nI (6 * t) + nI k) L := by rw [nI_add]; exact gIn_nI h (by omega)
def backTo (K : gK) (b L : Nat) (xs : Nat → Int32) (t : Nat) : Prop := ∀ ι ρ Λ, Inv (t + 1) ι ρ Λ → gX K (some (b, L, xs)) 37 600000 7302250 jL_law 1108 [some (vB b), some (vR 0), some (vR 40), some (vI (nI (6 * t)))] [] (385 + 312 * t) (5716 + 936 * t) ι ρ Λ (fun r _ _ _ => r = some (vI 1))
theorem law_rain {K : gK} {b L t : Nat} {xs : Nat → Int32} {ι : gIm} {ρ : gRm} {Λ : gLm} (hL : L ≤ 3072) (h6 : 6 * t + 6 ≤ L) (hI : Inv t ι ρ Λ) (back : backTo K b L xs t) : gX K (some (b, L, xs)) 37 600000 7302250 jL_law 176 [some (vB b), some (vR 0), some (vR 40), some (vI (nI (6 * t)))] [] (73 + 312 * t) (4780 + 936 * t) ι ρ Λ (fun r _ _ _ => r = some (vI 1)) := by
  obtain ⟨yr, wk, nh, nr, nb, ns, np, ch, h⟩ := hI
  obtain ⟨a, ι1, ρ1, Λ1, ι2, gx, gm, h2⟩ := o_rain h (xs (6 * t + 1)) (xs (6 * t + 2)) K
  refine x_aload_n 1 DL_law_176 rfl rfl ?_
  refine x_aload_n 0 DL_law_177 rfl rfl ?_
  refine x_iload_n 3 DL_law_178 rfl rfl ?_
  refine x_iconst 1 DL_law_179 (by decide) ?_
  refine x_iadd DL_law_180 ?_
  refine x_sld (6 * t + 1) (lix (k := 1) (by omega)) rfl DL_law_181 (lin (k := 1) (by omega) hL) ?_
  refine x_aload_n 0 DL_law_182 rfl rfl ?_
  refine x_iload_n 3 DL_law_183 rfl rfl ?_
  refine x_iconst 2 DL_law_184 (by decide) ?_
  refine x_iadd DL_law_185 ?_
  refine x_sld (6 * t + 2) (lix (k := 2) (by omega)) rfl DL_law_186 (lin (k := 2) (by omega) hL) ?_
  refine x_Ve (ci := 11) (av := [vI (xs (6 * t + 1)), vI (xs (6 * t + 2))]) (rest := []) (st' := [vI a]) (73 + 312 * t + 0) (4780 + 936 * t + 0) DL_law_187 LL_13 rfl rfl rfl rfl rfl ⟨nle rfl, nle rfl, nle rfl⟩ ⟨rfl, by omega⟩ ⟨rfl, by omega⟩ gx rfl ?_
  refine x_aload_n 2 DL_law_190 rfl rfl ?_
  refine x_aload_n 0 DL_law_191 rfl rfl ?_
  refine x_iload_n 3 DL_law_192 rfl rfl ?_
  refine x_iconst 1 DL_law_193 (by decide) ?_
  refine x_iadd DL_law_194 ?_
  refine x_sld (6 * t + 1) (lix (k := 1) (by omega)) rfl DL_law_195 (lin (k := 1) (by omega) hL) ?_
  refine x_aload_n 0 DL_law_196 rfl rfl ?_
  refine x_iload_n 3 DL_law_197 rfl rfl ?_
  refine x_iconst 2 DL_law_198 (by decide) ?_
  refine x_iadd DL_law_199 ?_
  refine x_sld (6 * t + 2) (lix (k := 2) (by omega)) rfl DL_law_200 (lin (k := 2) (by omega) hL) ?_
  refine x_Ve (ci := 12) (av := [vI (xs (6 * t + 1)), vI (xs (6 * t + 2))]) (rest := [vI a]) (st' := [vI a, vI a]) (73 + 312 * t + 0) (4780 + 936 * t + 0) DL_law_201 LL_17 rfl rfl rfl rfl rfl ⟨nle rfl, nle rfl, nle rfl⟩ ⟨by omega, by omega⟩ ⟨by omega, by omega⟩ gm rfl ?_
  exact x_icmp_eq 1108 DL_law_204 (by decide) (fun _ => x_widen (385 + 312 * t) (5716 + 936 * t) (by omega) (by omega) (back _ _ _ h2)) (fun q => absurd rfl q)
theorem law_rainOf {K : gK} {b L t : Nat} {xs : Nat → Int32} {ι : gIm} {ρ : gRm} {Λ : gLm} (hL : L ≤ 3072) (h6 : 6 * t + 6 ≤ L) (hI : Inv t ι ρ Λ) (back : backTo K b L xs t) : gX K (some (b, L, xs)) 37 600000 7302250 jL_law 209 [some (vB b), some (vR 0), some (vR 40), some (vI (nI (6 * t)))] [] (73 + 312 * t) (4780 + 936 * t) ι ρ Λ (fun r _ _ _ => r = some (vI 1)) := by
  obtain ⟨yr, wk, nh, nr, nb, ns, np, ch, h⟩ := hI
  obtain ⟨a, ι1, ρ1, Λ1, ι2, gx, gm, h2⟩ := o_rainOf h (xs (6 * t + 1)) K
  refine x_aload_n 1 DL_law_209 rfl rfl ?_
  refine x_aload_n 0 DL_law_210 rfl rfl ?_
  refine x_iload_n 3 DL_law_211 rfl rfl ?_
  refine x_iconst 1 DL_law_212 (by decide) ?_
  refine x_iadd DL_law_213 ?_
  refine x_sld (6 * t + 1) (lix (k := 1) (by omega)) rfl DL_law_214 (lin (k := 1) (by omega) hL) ?_
  refine x_Ve (ci := 11) (av := [vI (xs (6 * t + 1))]) (rest := []) (st' := [vI a]) (73 + 312 * t + 0) (4780 + 936 * t + 0) DL_law_215 LL_18 rfl rfl rfl rfl rfl ⟨nle rfl, nle rfl, nle rfl⟩ ⟨rfl, by omega⟩ ⟨rfl, by omega⟩ gx rfl ?_
  refine x_aload_n 2 DL_law_218 rfl rfl ?_
  refine x_aload_n 0 DL_law_219 rfl rfl ?_
  refine x_iload_n 3 DL_law_220 rfl rfl ?_
  refine x_iconst 1 DL_law_221 (by decide) ?_
  refine x_iadd DL_law_222 ?_
  refine x_sld (6 * t + 1) (lix (k := 1) (by omega)) rfl DL_law_223 (lin (k := 1) (by omega) hL) ?_
  refine x_Ve (ci := 12) (av := [vI (xs (6 * t + 1))]) (rest := [vI a]) (st' := [vI a, vI a]) (73 + 312 * t + 0) (4780 + 936 * t + 0) DL_law_224 LL_22 rfl rfl rfl rfl rfl ⟨nle rfl, nle rfl, nle rfl⟩ ⟨by omega, by omega⟩ ⟨by omega, by omega⟩ gm rfl ?_
  exact x_icmp_eq 1108 DL_law_227 (by decide) (fun _ => x_widen (385 + 312 * t) (5716 + 936 * t) (by omega) (by omega) (back _ _ _ h2)) (fun q => absurd rfl q)
theorem law_house {K : gK} {b L t : Nat} {xs : Nat → Int32} {ι : gIm} {ρ : gRm} {Λ : gLm} (hL : L ≤ 3072) (h6 : 6 * t + 6 ≤ L) (hI : Inv t ι ρ Λ) (back : backTo K b L xs t) : gX K (some (b, L, xs)) 37 600000 7302250 jL_law 232 [some (vB b), some (vR 0), some (vR 40), some (vI (nI (6 * t)))] [] (73 + 312 * t) (4780 + 936 * t) ι ρ Λ (fun r _ _ _ => r = some (vI 1)) := by
  obtain ⟨yr, wk, nh, nr, nb, ns, np, ch, h⟩ := hI
  obtain ⟨a, ι1, ρ1, Λ1, ι2, gx, gm, h2⟩ := o_house h (xs (6 * t + 1)) (xs (6 * t + 2)) K
  refine x_aload_n 1 DL_law_232 rfl rfl ?_
  refine x_aload_n 0 DL_law_233 rfl rfl ?_
  refine x_iload_n 3 DL_law_234 rfl rfl ?_
  refine x_iconst 1 DL_law_235 (by decide) ?_
  refine x_iadd DL_law_236 ?_
  refine x_sld (6 * t + 1) (lix (k := 1) (by omega)) rfl DL_law_237 (lin (k := 1) (by omega) hL) ?_
  refine x_aload_n 0 DL_law_238 rfl rfl ?_
  refine x_iload_n 3 DL_law_239 rfl rfl ?_
  refine x_iconst 2 DL_law_240 (by decide) ?_
  refine x_iadd DL_law_241 ?_
  refine x_sld (6 * t + 2) (lix (k := 2) (by omega)) rfl DL_law_242 (lin (k := 2) (by omega) hL) ?_
  refine x_Ve (ci := 11) (av := [vI (xs (6 * t + 1)), vI (xs (6 * t + 2))]) (rest := []) (st' := [vI a]) (73 + 312 * t + 1) (4780 + 936 * t + 9) DL_law_243 LL_23 rfl rfl rfl rfl rfl ⟨nle rfl, nle rfl, nle rfl⟩ ⟨rfl, by omega⟩ ⟨rfl, by omega⟩ gx rfl ?_
  refine x_aload_n 2 DL_law_246 rfl rfl ?_
  refine x_aload_n 0 DL_law_247 rfl rfl ?_
  refine x_iload_n 3 DL_law_248 rfl rfl ?_
  refine x_iconst 1 DL_law_249 (by decide) ?_
  refine x_iadd DL_law_250 ?_
  refine x_sld (6 * t + 1) (lix (k := 1) (by omega)) rfl DL_law_251 (lin (k := 1) (by omega) hL) ?_
  refine x_aload_n 0 DL_law_252 rfl rfl ?_
  refine x_iload_n 3 DL_law_253 rfl rfl ?_
  refine x_iconst 2 DL_law_254 (by decide) ?_
  refine x_iadd DL_law_255 ?_
  refine x_sld (6 * t + 2) (lix (k := 2) (by omega)) rfl DL_law_256 (lin (k := 2) (by omega) hL) ?_
  refine x_Ve (ci := 12) (av := [vI (xs (6 * t + 1)), vI (xs (6 * t + 2))]) (rest := [vI a]) (st' := [vI a, vI a]) (73 + 312 * t + 1) (4780 + 936 * t + 9) DL_law_257 LL_26 rfl rfl rfl rfl rfl ⟨nle rfl, nle rfl, nle rfl⟩ ⟨by omega, by omega⟩ ⟨by omega, by omega⟩ gm rfl ?_
  exact x_icmp_eq 1108 DL_law_260 (by decide) (fun _ => x_widen (385 + 312 * t) (5716 + 936 * t) (by omega) (by omega) (back _ _ _ h2)) (fun q => absurd rfl q)
theorem law_set {K : gK} {b L t : Nat} {xs : Nat → Int32} {ι : gIm} {ρ : gRm} {Λ : gLm} (hL : L ≤ 3072) (h6 : 6 * t + 6 ≤ L) (hI : Inv t ι ρ Λ) (back : backTo K b L xs t) : gX K (some (b, L, xs)) 37 600000 7302250 jL_law 265 [some (vB b), some (vR 0), some (vR 40), some (vI (nI (6 * t)))] [] (73 + 312 * t) (4780 + 936 * t) ι ρ Λ (fun r _ _ _ => r = some (vI 1)) := by
  obtain ⟨yr, wk, nh, nr, nb, ns, np, ch, h⟩ := hI
  obtain ⟨a, ι1, ρ1, Λ1, ι2, gx, gm, h2⟩ := o_set h (xs (6 * t + 1)) (xs (6 * t + 2)) (xs (6 * t + 3)) K
  refine x_aload_n 1 DL_law_265 rfl rfl ?_
  refine x_aload_n 0 DL_law_266 rfl rfl ?_
  refine x_iload_n 3 DL_law_267 rfl rfl ?_
  refine x_iconst 1 DL_law_268 (by decide) ?_
  refine x_iadd DL_law_269 ?_
  refine x_sld (6 * t + 1) (lix (k := 1) (by omega)) rfl DL_law_270 (lin (k := 1) (by omega) hL) ?_
  refine x_aload_n 0 DL_law_271 rfl rfl ?_
  refine x_iload_n 3 DL_law_272 rfl rfl ?_
  refine x_iconst 2 DL_law_273 (by decide) ?_
  refine x_iadd DL_law_274 ?_
  refine x_sld (6 * t + 2) (lix (k := 2) (by omega)) rfl DL_law_275 (lin (k := 2) (by omega) hL) ?_
  refine x_aload_n 0 DL_law_276 rfl rfl ?_
  refine x_iload_n 3 DL_law_277 rfl rfl ?_
  refine x_iconst 3 DL_law_278 (by decide) ?_
  refine x_iadd DL_law_279 ?_
  refine x_sld (6 * t + 3) (lix (k := 3) (by omega)) rfl DL_law_280 (lin (k := 3) (by omega) hL) ?_
  refine x_Ve (ci := 11) (av := [vI (xs (6 * t + 1)), vI (xs (6 * t + 2)), vI (xs (6 * t + 3))]) (rest := []) (st' := [vI a]) (73 + 312 * t + 0) (4780 + 936 * t + 0) DL_law_281 LL_27 rfl rfl rfl rfl rfl ⟨nle rfl, nle rfl, nle rfl⟩ ⟨rfl, by omega⟩ ⟨rfl, by omega⟩ gx rfl ?_
  refine x_aload_n 2 DL_law_284 rfl rfl ?_
  refine x_aload_n 0 DL_law_285 rfl rfl ?_
  refine x_iload_n 3 DL_law_286 rfl rfl ?_
  refine x_iconst 1 DL_law_287 (by decide) ?_
  refine x_iadd DL_law_288 ?_
  refine x_sld (6 * t + 1) (lix (k := 1) (by omega)) rfl DL_law_289 (lin (k := 1) (by omega) hL) ?_
  refine x_aload_n 0 DL_law_290 rfl rfl ?_
  refine x_iload_n 3 DL_law_291 rfl rfl ?_
  refine x_iconst 2 DL_law_292 (by decide) ?_
  refine x_iadd DL_law_293 ?_
  refine x_sld (6 * t + 2) (lix (k := 2) (by omega)) rfl DL_law_294 (lin (k := 2) (by omega) hL) ?_
  refine x_aload_n 0 DL_law_295 rfl rfl ?_
  refine x_iload_n 3 DL_law_296 rfl rfl ?_
  refine x_iconst 3 DL_law_297 (by decide) ?_
  refine x_iadd DL_law_298 ?_
  refine x_sld (6 * t + 3) (lix (k := 3) (by omega)) rfl DL_law_299 (lin (k := 3) (by omega) hL) ?_
  refine x_Ve (ci := 12) (av := [vI (xs (6 * t + 1)), vI (xs (6 * t + 2)), vI (xs (6 * t + 3))]) (rest := [vI a]) (st' := [vI a, vI a]) (73 + 312 * t + 0) (4780 + 936 * t + 0) DL_law_300 LL_31 rfl rfl rfl rfl rfl ⟨nle rfl, nle rfl, nle rfl⟩ ⟨by omega, by omega⟩ ⟨by omega, by omega⟩ gm rfl ?_
  exact x_icmp_eq 1108 DL_law_303 (by decide) (fun _ => x_widen (385 + 312 * t) (5716 + 936 * t) (by omega) (by omega) (back _ _ _ h2)) (fun q => absurd rfl q)
theorem law_bring {K : gK} {b L t : Nat} {xs : Nat → Int32} {ι : gIm} {ρ : gRm} {Λ : gLm} (hL : L ≤ 3072) (h6 : 6 * t + 6 ≤ L) (hI : Inv t ι ρ Λ) (back : backTo K b L xs t) : gX K (some (b, L, xs)) 37 600000 7302250 jL_law 308 [some (vB b), some (vR 0), some (vR 40), some (vI (nI (6 * t)))] [] (73 + 312 * t) (4780 + 936 * t) ι ρ Λ (fun r _ _ _ => r = some (vI 1)) := by
  obtain ⟨yr, wk, nh, nr, nb, ns, np, ch, h⟩ := hI
  obtain ⟨a, ι1, ρ1, Λ1, ι2, gx, gm, h2⟩ := o_bring h (xs (6 * t + 1)) (xs (6 * t + 2)) (xs (6 * t + 3)) K
  refine x_aload_n 1 DL_law_308 rfl rfl ?_
  refine x_aload_n 0 DL_law_309 rfl rfl ?_
  refine x_iload_n 3 DL_law_310 rfl rfl ?_
  refine x_iconst 1 DL_law_311 (by decide) ?_
  refine x_iadd DL_law_312 ?_
  refine x_sld (6 * t + 1) (lix (k := 1) (by omega)) rfl DL_law_313 (lin (k := 1) (by omega) hL) ?_
  refine x_aload_n 0 DL_law_314 rfl rfl ?_
  refine x_iload_n 3 DL_law_315 rfl rfl ?_
  refine x_iconst 2 DL_law_316 (by decide) ?_
  refine x_iadd DL_law_317 ?_
  refine x_sld (6 * t + 2) (lix (k := 2) (by omega)) rfl DL_law_318 (lin (k := 2) (by omega) hL) ?_
  refine x_aload_n 0 DL_law_319 rfl rfl ?_
  refine x_iload_n 3 DL_law_320 rfl rfl ?_
  refine x_iconst 3 DL_law_321 (by decide) ?_
  refine x_iadd DL_law_322 ?_
  refine x_sld (6 * t + 3) (lix (k := 3) (by omega)) rfl DL_law_323 (lin (k := 3) (by omega) hL) ?_
  refine x_Ve (ci := 11) (av := [vI (xs (6 * t + 1)), vI (xs (6 * t + 2)), vI (xs (6 * t + 3))]) (rest := []) (st' := [vI a]) (73 + 312 * t + 0) (4780 + 936 * t + 0) DL_law_324 LL_32 rfl rfl rfl rfl rfl ⟨nle rfl, nle rfl, nle rfl⟩ ⟨rfl, by omega⟩ ⟨rfl, by omega⟩ gx rfl ?_
  refine x_aload_n 2 DL_law_327 rfl rfl ?_
  refine x_aload_n 0 DL_law_328 rfl rfl ?_
  refine x_iload_n 3 DL_law_329 rfl rfl ?_
  refine x_iconst 1 DL_law_330 (by decide) ?_
  refine x_iadd DL_law_331 ?_
  refine x_sld (6 * t + 1) (lix (k := 1) (by omega)) rfl DL_law_332 (lin (k := 1) (by omega) hL) ?_
  refine x_aload_n 0 DL_law_333 rfl rfl ?_
  refine x_iload_n 3 DL_law_334 rfl rfl ?_
  refine x_iconst 2 DL_law_335 (by decide) ?_
  refine x_iadd DL_law_336 ?_
  refine x_sld (6 * t + 2) (lix (k := 2) (by omega)) rfl DL_law_337 (lin (k := 2) (by omega) hL) ?_
  refine x_aload_n 0 DL_law_338 rfl rfl ?_
  refine x_iload_n 3 DL_law_339 rfl rfl ?_
  refine x_iconst 3 DL_law_340 (by decide) ?_
  refine x_iadd DL_law_341 ?_
  refine x_sld (6 * t + 3) (lix (k := 3) (by omega)) rfl DL_law_342 (lin (k := 3) (by omega) hL) ?_
  refine x_Ve (ci := 12) (av := [vI (xs (6 * t + 1)), vI (xs (6 * t + 2)), vI (xs (6 * t + 3))]) (rest := [vI a]) (st' := [vI a, vI a]) (73 + 312 * t + 0) (4780 + 936 * t + 0) DL_law_343 LL_35 rfl rfl rfl rfl rfl ⟨nle rfl, nle rfl, nle rfl⟩ ⟨by omega, by omega⟩ ⟨by omega, by omega⟩ gm rfl ?_
  exact x_icmp_eq 1108 DL_law_346 (by decide) (fun _ => x_widen (385 + 312 * t) (5716 + 936 * t) (by omega) (by omega) (back _ _ _ h2)) (fun q => absurd rfl q)
theorem law_brought {K : gK} {b L t : Nat} {xs : Nat → Int32} {ι : gIm} {ρ : gRm} {Λ : gLm} (hL : L ≤ 3072) (h6 : 6 * t + 6 ≤ L) (hI : Inv t ι ρ Λ) (back : backTo K b L xs t) : gX K (some (b, L, xs)) 37 600000 7302250 jL_law 351 [some (vB b), some (vR 0), some (vR 40), some (vI (nI (6 * t)))] [] (73 + 312 * t) (4780 + 936 * t) ι ρ Λ (fun r _ _ _ => r = some (vI 1)) := by
  obtain ⟨yr, wk, nh, nr, nb, ns, np, ch, h⟩ := hI
  obtain ⟨a, ι1, ρ1, Λ1, ι2, gx, gm, h2⟩ := o_brought h (xs (6 * t + 1)) (xs (6 * t + 2)) K
  refine x_aload_n 1 DL_law_351 rfl rfl ?_
  refine x_aload_n 0 DL_law_352 rfl rfl ?_
  refine x_iload_n 3 DL_law_353 rfl rfl ?_
  refine x_iconst 1 DL_law_354 (by decide) ?_
  refine x_iadd DL_law_355 ?_
  refine x_sld (6 * t + 1) (lix (k := 1) (by omega)) rfl DL_law_356 (lin (k := 1) (by omega) hL) ?_
  refine x_aload_n 0 DL_law_357 rfl rfl ?_
  refine x_iload_n 3 DL_law_358 rfl rfl ?_
  refine x_iconst 2 DL_law_359 (by decide) ?_
  refine x_iadd DL_law_360 ?_
  refine x_sld (6 * t + 2) (lix (k := 2) (by omega)) rfl DL_law_361 (lin (k := 2) (by omega) hL) ?_
  refine x_Ve (ci := 11) (av := [vI (xs (6 * t + 1)), vI (xs (6 * t + 2))]) (rest := []) (st' := [vI a]) (73 + 312 * t + 0) (4780 + 936 * t + 0) DL_law_362 LL_36 rfl rfl rfl rfl rfl ⟨nle rfl, nle rfl, nle rfl⟩ ⟨rfl, by omega⟩ ⟨rfl, by omega⟩ gx rfl ?_
  refine x_aload_n 2 DL_law_365 rfl rfl ?_
  refine x_aload_n 0 DL_law_366 rfl rfl ?_
  refine x_iload_n 3 DL_law_367 rfl rfl ?_
  refine x_iconst 1 DL_law_368 (by decide) ?_
  refine x_iadd DL_law_369 ?_
  refine x_sld (6 * t + 1) (lix (k := 1) (by omega)) rfl DL_law_370 (lin (k := 1) (by omega) hL) ?_
  refine x_aload_n 0 DL_law_371 rfl rfl ?_
  refine x_iload_n 3 DL_law_372 rfl rfl ?_
  refine x_iconst 2 DL_law_373 (by decide) ?_
  refine x_iadd DL_law_374 ?_
  refine x_sld (6 * t + 2) (lix (k := 2) (by omega)) rfl DL_law_375 (lin (k := 2) (by omega) hL) ?_
  refine x_Ve (ci := 12) (av := [vI (xs (6 * t + 1)), vI (xs (6 * t + 2))]) (rest := [vI a]) (st' := [vI a, vI a]) (73 + 312 * t + 0) (4780 + 936 * t + 0) DL_law_376 LL_39 rfl rfl rfl rfl rfl ⟨nle rfl, nle rfl, nle rfl⟩ ⟨by omega, by omega⟩ ⟨by omega, by omega⟩ gm rfl ?_
  exact x_icmp_eq 1108 DL_law_379 (by decide) (fun _ => x_widen (385 + 312 * t) (5716 + 936 * t) (by omega) (by omega) (back _ _ _ h2)) (fun q => absurd rfl q)
theorem law_ask {K : gK} {b L t : Nat} {xs : Nat → Int32} {ι : gIm} {ρ : gRm} {Λ : gLm} (hL : L ≤ 3072) (h6 : 6 * t + 6 ≤ L) (hI : Inv t ι ρ Λ) (back : backTo K b L xs t) : gX K (some (b, L, xs)) 37 600000 7302250 jL_law 384 [some (vB b), some (vR 0), some (vR 40), some (vI (nI (6 * t)))] [] (73 + 312 * t) (4780 + 936 * t) ι ρ Λ (fun r _ _ _ => r = some (vI 1)) := by
  obtain ⟨yr, wk, nh, nr, nb, ns, np, ch, h⟩ := hI
  obtain ⟨a, ι1, ρ1, Λ1, ι2, gx, gm, h2⟩ := o_ask h (xs (6 * t + 1)) K
  refine x_aload_n 1 DL_law_384 rfl rfl ?_
  refine x_aload_n 0 DL_law_385 rfl rfl ?_
  refine x_iload_n 3 DL_law_386 rfl rfl ?_
  refine x_iconst 1 DL_law_387 (by decide) ?_
  refine x_iadd DL_law_388 ?_
  refine x_sld (6 * t + 1) (lix (k := 1) (by omega)) rfl DL_law_389 (lin (k := 1) (by omega) hL) ?_
  refine x_Ve (ci := 11) (av := [vI (xs (6 * t + 1))]) (rest := []) (st' := [vI a]) (73 + 312 * t + 0) (4780 + 936 * t + 0) DL_law_390 LL_40 rfl rfl rfl rfl rfl ⟨nle rfl, nle rfl, nle rfl⟩ ⟨rfl, by omega⟩ ⟨rfl, by omega⟩ gx rfl ?_
  refine x_aload_n 2 DL_law_393 rfl rfl ?_
  refine x_aload_n 0 DL_law_394 rfl rfl ?_
  refine x_iload_n 3 DL_law_395 rfl rfl ?_
  refine x_iconst 1 DL_law_396 (by decide) ?_
  refine x_iadd DL_law_397 ?_
  refine x_sld (6 * t + 1) (lix (k := 1) (by omega)) rfl DL_law_398 (lin (k := 1) (by omega) hL) ?_
  refine x_Ve (ci := 12) (av := [vI (xs (6 * t + 1))]) (rest := [vI a]) (st' := [vI a, vI a]) (73 + 312 * t + 0) (4780 + 936 * t + 0) DL_law_399 LL_43 rfl rfl rfl rfl rfl ⟨nle rfl, nle rfl, nle rfl⟩ ⟨by omega, by omega⟩ ⟨by omega, by omega⟩ gm rfl ?_
  exact x_icmp_eq 1108 DL_law_402 (by decide) (fun _ => x_widen (385 + 312 * t) (5716 + 936 * t) (by omega) (by omega) (back _ _ _ h2)) (fun q => absurd rfl q)
theorem law_share {K : gK} {b L t : Nat} {xs : Nat → Int32} {ι : gIm} {ρ : gRm} {Λ : gLm} (hL : L ≤ 3072) (h6 : 6 * t + 6 ≤ L) (hI : Inv t ι ρ Λ) (back : backTo K b L xs t) : gX K (some (b, L, xs)) 37 600000 7302250 jL_law 407 [some (vB b), some (vR 0), some (vR 40), some (vI (nI (6 * t)))] [] (73 + 312 * t) (4780 + 936 * t) ι ρ Λ (fun r _ _ _ => r = some (vI 1)) := by
  obtain ⟨yr, wk, nh, nr, nb, ns, np, ch, h⟩ := hI
  obtain ⟨a, ι1, ρ1, Λ1, ι2, gx, gm, h2⟩ := o_share h (xs (6 * t + 1)) K
  refine x_aload_n 1 DL_law_407 rfl rfl ?_
  refine x_aload_n 0 DL_law_408 rfl rfl ?_
  refine x_iload_n 3 DL_law_409 rfl rfl ?_
  refine x_iconst 1 DL_law_410 (by decide) ?_
  refine x_iadd DL_law_411 ?_
  refine x_sld (6 * t + 1) (lix (k := 1) (by omega)) rfl DL_law_412 (lin (k := 1) (by omega) hL) ?_
  refine x_Ve (ci := 11) (av := [vI (xs (6 * t + 1))]) (rest := []) (st' := [vI a]) (73 + 312 * t + 0) (4780 + 936 * t + 0) DL_law_413 LL_44 rfl rfl rfl rfl rfl ⟨nle rfl, nle rfl, nle rfl⟩ ⟨rfl, by omega⟩ ⟨rfl, by omega⟩ gx rfl ?_
  refine x_aload_n 2 DL_law_416 rfl rfl ?_
  refine x_aload_n 0 DL_law_417 rfl rfl ?_
  refine x_iload_n 3 DL_law_418 rfl rfl ?_
  refine x_iconst 1 DL_law_419 (by decide) ?_
  refine x_iadd DL_law_420 ?_
  refine x_sld (6 * t + 1) (lix (k := 1) (by omega)) rfl DL_law_421 (lin (k := 1) (by omega) hL) ?_
  refine x_Ve (ci := 12) (av := [vI (xs (6 * t + 1))]) (rest := [vI a]) (st' := [vI a, vI a]) (73 + 312 * t + 0) (4780 + 936 * t + 0) DL_law_422 LL_47 rfl rfl rfl rfl rfl ⟨nle rfl, nle rfl, nle rfl⟩ ⟨by omega, by omega⟩ ⟨by omega, by omega⟩ gm rfl ?_
  exact x_icmp_eq 1108 DL_law_425 (by decide) (fun _ => x_widen (385 + 312 * t) (5716 + 936 * t) (by omega) (by omega) (back _ _ _ h2)) (fun q => absurd rfl q)
theorem law_owed {K : gK} {b L t : Nat} {xs : Nat → Int32} {ι : gIm} {ρ : gRm} {Λ : gLm} (hL : L ≤ 3072) (h6 : 6 * t + 6 ≤ L) (hI : Inv t ι ρ Λ) (back : backTo K b L xs t) : gX K (some (b, L, xs)) 37 600000 7302250 jL_law 430 [some (vB b), some (vR 0), some (vR 40), some (vI (nI (6 * t)))] [] (73 + 312 * t) (4780 + 936 * t) ι ρ Λ (fun r _ _ _ => r = some (vI 1)) := by
  obtain ⟨yr, wk, nh, nr, nb, ns, np, ch, h⟩ := hI
  obtain ⟨a, ι1, ρ1, Λ1, ι2, gx, gm, h2⟩ := o_owed h (xs (6 * t + 1)) K
  refine x_aload_n 1 DL_law_430 rfl rfl ?_
  refine x_aload_n 0 DL_law_431 rfl rfl ?_
  refine x_iload_n 3 DL_law_432 rfl rfl ?_
  refine x_iconst 1 DL_law_433 (by decide) ?_
  refine x_iadd DL_law_434 ?_
  refine x_sld (6 * t + 1) (lix (k := 1) (by omega)) rfl DL_law_435 (lin (k := 1) (by omega) hL) ?_
  refine x_Ve (ci := 11) (av := [vI (xs (6 * t + 1))]) (rest := []) (st' := [vI a]) (73 + 312 * t + 0) (4780 + 936 * t + 0) DL_law_436 LL_48 rfl rfl rfl rfl rfl ⟨nle rfl, nle rfl, nle rfl⟩ ⟨rfl, by omega⟩ ⟨rfl, by omega⟩ gx rfl ?_
  refine x_aload_n 2 DL_law_439 rfl rfl ?_
  refine x_aload_n 0 DL_law_440 rfl rfl ?_
  refine x_iload_n 3 DL_law_441 rfl rfl ?_
  refine x_iconst 1 DL_law_442 (by decide) ?_
  refine x_iadd DL_law_443 ?_
  refine x_sld (6 * t + 1) (lix (k := 1) (by omega)) rfl DL_law_444 (lin (k := 1) (by omega) hL) ?_
  refine x_Ve (ci := 12) (av := [vI (xs (6 * t + 1))]) (rest := [vI a]) (st' := [vI a, vI a]) (73 + 312 * t + 0) (4780 + 936 * t + 0) DL_law_445 LL_51 rfl rfl rfl rfl rfl ⟨nle rfl, nle rfl, nle rfl⟩ ⟨by omega, by omega⟩ ⟨by omega, by omega⟩ gm rfl ?_
  exact x_icmp_eq 1108 DL_law_448 (by decide) (fun _ => x_widen (385 + 312 * t) (5716 + 936 * t) (by omega) (by omega) (back _ _ _ h2)) (fun q => absurd rfl q)
theorem law_close {K : gK} {b L t : Nat} {xs : Nat → Int32} {ι : gIm} {ρ : gRm} {Λ : gLm} (hL : L ≤ 3072) (h6 : 6 * t + 6 ≤ L) (hI : Inv t ι ρ Λ) (back : backTo K b L xs t) : gX K (some (b, L, xs)) 37 600000 7302250 jL_law 453 [some (vB b), some (vR 0), some (vR 40), some (vI (nI (6 * t)))] [] (73 + 312 * t) (4780 + 936 * t) ι ρ Λ (fun r _ _ _ => r = some (vI 1)) := by
  obtain ⟨yr, wk, nh, nr, nb, ns, np, ch, h⟩ := hI
  obtain ⟨a, ι1, ρ1, Λ1, ι2, gx, gm, h2⟩ := o_close h  K
  refine x_aload_n 1 DL_law_453 rfl rfl ?_
  refine x_Ve (ci := 11) (av := []) (rest := []) (st' := [vI a]) (73 + 312 * t + 0) (4780 + 936 * t + 0) DL_law_454 LL_52 rfl rfl rfl rfl rfl ⟨nle rfl, nle rfl, nle rfl⟩ ⟨rfl, by omega⟩ ⟨rfl, by omega⟩ gx rfl ?_
  refine x_aload_n 2 DL_law_457 rfl rfl ?_
  refine x_Ve (ci := 12) (av := []) (rest := [vI a]) (st' := [vI a, vI a]) (73 + 312 * t + 0) (4780 + 936 * t + 0) DL_law_458 LL_56 rfl rfl rfl rfl rfl ⟨nle rfl, nle rfl, nle rfl⟩ ⟨by omega, by omega⟩ ⟨by omega, by omega⟩ gm rfl ?_
  exact x_icmp_eq 1108 DL_law_461 (by decide) (fun _ => x_widen (385 + 312 * t) (5716 + 936 * t) (by omega) (by omega) (back _ _ _ h2)) (fun q => absurd rfl q)
theorem law_small {K : gK} {b L t : Nat} {xs : Nat → Int32} {ι : gIm} {ρ : gRm} {Λ : gLm} (hL : L ≤ 3072) (h6 : 6 * t + 6 ≤ L) (hI : Inv t ι ρ Λ) (back : backTo K b L xs t) : gX K (some (b, L, xs)) 37 600000 7302250 jL_law 466 [some (vB b), some (vR 0), some (vR 40), some (vI (nI (6 * t)))] [] (73 + 312 * t) (4780 + 936 * t) ι ρ Λ (fun r _ _ _ => r = some (vI 1)) := by
  obtain ⟨yr, wk, nh, nr, nb, ns, np, ch, h⟩ := hI
  obtain ⟨a, ι1, ρ1, Λ1, ι2, gx, gm, h2⟩ := o_small h (xs (6 * t + 1)) (xs (6 * t + 2)) (xs (6 * t + 3)) K
  refine x_aload_n 1 DL_law_466 rfl rfl ?_
  refine x_aload_n 0 DL_law_467 rfl rfl ?_
  refine x_iload_n 3 DL_law_468 rfl rfl ?_
  refine x_iconst 1 DL_law_469 (by decide) ?_
  refine x_iadd DL_law_470 ?_
  refine x_sld (6 * t + 1) (lix (k := 1) (by omega)) rfl DL_law_471 (lin (k := 1) (by omega) hL) ?_
  refine x_aload_n 0 DL_law_472 rfl rfl ?_
  refine x_iload_n 3 DL_law_473 rfl rfl ?_
  refine x_iconst 2 DL_law_474 (by decide) ?_
  refine x_iadd DL_law_475 ?_
  refine x_sld (6 * t + 2) (lix (k := 2) (by omega)) rfl DL_law_476 (lin (k := 2) (by omega) hL) ?_
  refine x_aload_n 0 DL_law_477 rfl rfl ?_
  refine x_iload_n 3 DL_law_478 rfl rfl ?_
  refine x_iconst 3 DL_law_479 (by decide) ?_
  refine x_iadd DL_law_480 ?_
  refine x_sld (6 * t + 3) (lix (k := 3) (by omega)) rfl DL_law_481 (lin (k := 3) (by omega) hL) ?_
  refine x_Ve (ci := 11) (av := [vI (xs (6 * t + 1)), vI (xs (6 * t + 2)), vI (xs (6 * t + 3))]) (rest := []) (st' := [vI a]) (73 + 312 * t + 3) (4780 + 936 * t + 15) DL_law_482 LL_57 rfl rfl rfl rfl rfl ⟨nle rfl, nle rfl, nle rfl⟩ ⟨rfl, by omega⟩ ⟨rfl, by omega⟩ gx rfl ?_
  refine x_aload_n 2 DL_law_485 rfl rfl ?_
  refine x_aload_n 0 DL_law_486 rfl rfl ?_
  refine x_iload_n 3 DL_law_487 rfl rfl ?_
  refine x_iconst 1 DL_law_488 (by decide) ?_
  refine x_iadd DL_law_489 ?_
  refine x_sld (6 * t + 1) (lix (k := 1) (by omega)) rfl DL_law_490 (lin (k := 1) (by omega) hL) ?_
  refine x_aload_n 0 DL_law_491 rfl rfl ?_
  refine x_iload_n 3 DL_law_492 rfl rfl ?_
  refine x_iconst 2 DL_law_493 (by decide) ?_
  refine x_iadd DL_law_494 ?_
  refine x_sld (6 * t + 2) (lix (k := 2) (by omega)) rfl DL_law_495 (lin (k := 2) (by omega) hL) ?_
  refine x_aload_n 0 DL_law_496 rfl rfl ?_
  refine x_iload_n 3 DL_law_497 rfl rfl ?_
  refine x_iconst 3 DL_law_498 (by decide) ?_
  refine x_iadd DL_law_499 ?_
  refine x_sld (6 * t + 3) (lix (k := 3) (by omega)) rfl DL_law_500 (lin (k := 3) (by omega) hL) ?_
  refine x_Ve (ci := 12) (av := [vI (xs (6 * t + 1)), vI (xs (6 * t + 2)), vI (xs (6 * t + 3))]) (rest := [vI a]) (st' := [vI a, vI a]) (73 + 312 * t + 3) (4780 + 936 * t + 15) DL_law_501 LL_60 rfl rfl rfl rfl rfl ⟨nle rfl, nle rfl, nle rfl⟩ ⟨by omega, by omega⟩ ⟨by omega, by omega⟩ gm rfl ?_
  exact x_icmp_eq 1108 DL_law_504 (by decide) (fun _ => x_widen (385 + 312 * t) (5716 + 936 * t) (by omega) (by omega) (back _ _ _ h2)) (fun q => absurd rfl q)
theorem law_lay {K : gK} {b L t : Nat} {xs : Nat → Int32} {ι : gIm} {ρ : gRm} {Λ : gLm} (hL : L ≤ 3072) (h6 : 6 * t + 6 ≤ L) (hI : Inv t ι ρ Λ) (back : backTo K b L xs t) : gX K (some (b, L, xs)) 37 600000 7302250 jL_law 509 [some (vB b), some (vR 0), some (vR 40), some (vI (nI (6 * t)))] [] (73 + 312 * t) (4780 + 936 * t) ι ρ Λ (fun r _ _ _ => r = some (vI 1)) := by
  obtain ⟨yr, wk, nh, nr, nb, ns, np, ch, h⟩ := hI
  obtain ⟨a, ι1, ρ1, Λ1, ι2, gx, gm, h2⟩ := o_lay h (xs (6 * t + 1)) (xs (6 * t + 2)) (xs (6 * t + 3)) K
  refine x_aload_n 1 DL_law_509 rfl rfl ?_
  refine x_aload_n 0 DL_law_510 rfl rfl ?_
  refine x_iload_n 3 DL_law_511 rfl rfl ?_
  refine x_iconst 1 DL_law_512 (by decide) ?_
  refine x_iadd DL_law_513 ?_
  refine x_sld (6 * t + 1) (lix (k := 1) (by omega)) rfl DL_law_514 (lin (k := 1) (by omega) hL) ?_
  refine x_aload_n 0 DL_law_515 rfl rfl ?_
  refine x_iload_n 3 DL_law_516 rfl rfl ?_
  refine x_iconst 2 DL_law_517 (by decide) ?_
  refine x_iadd DL_law_518 ?_
  refine x_sld (6 * t + 2) (lix (k := 2) (by omega)) rfl DL_law_519 (lin (k := 2) (by omega) hL) ?_
  refine x_aload_n 0 DL_law_520 rfl rfl ?_
  refine x_iload_n 3 DL_law_521 rfl rfl ?_
  refine x_iconst 3 DL_law_522 (by decide) ?_
  refine x_iadd DL_law_523 ?_
  refine x_sld (6 * t + 3) (lix (k := 3) (by omega)) rfl DL_law_524 (lin (k := 3) (by omega) hL) ?_
  refine x_Ve (ci := 11) (av := [vI (xs (6 * t + 1)), vI (xs (6 * t + 2)), vI (xs (6 * t + 3))]) (rest := []) (st' := [vI a]) (73 + 312 * t + 3) (4780 + 936 * t + 63) DL_law_525 LL_61 rfl rfl rfl rfl rfl ⟨nle rfl, nle rfl, nle rfl⟩ ⟨rfl, by omega⟩ ⟨rfl, by omega⟩ gx rfl ?_
  refine x_aload_n 2 DL_law_528 rfl rfl ?_
  refine x_aload_n 0 DL_law_529 rfl rfl ?_
  refine x_iload_n 3 DL_law_530 rfl rfl ?_
  refine x_iconst 1 DL_law_531 (by decide) ?_
  refine x_iadd DL_law_532 ?_
  refine x_sld (6 * t + 1) (lix (k := 1) (by omega)) rfl DL_law_533 (lin (k := 1) (by omega) hL) ?_
  refine x_aload_n 0 DL_law_534 rfl rfl ?_
  refine x_iload_n 3 DL_law_535 rfl rfl ?_
  refine x_iconst 2 DL_law_536 (by decide) ?_
  refine x_iadd DL_law_537 ?_
  refine x_sld (6 * t + 2) (lix (k := 2) (by omega)) rfl DL_law_538 (lin (k := 2) (by omega) hL) ?_
  refine x_aload_n 0 DL_law_539 rfl rfl ?_
  refine x_iload_n 3 DL_law_540 rfl rfl ?_
  refine x_iconst 3 DL_law_541 (by decide) ?_
  refine x_iadd DL_law_542 ?_
  refine x_sld (6 * t + 3) (lix (k := 3) (by omega)) rfl DL_law_543 (lin (k := 3) (by omega) hL) ?_
  refine x_Ve (ci := 12) (av := [vI (xs (6 * t + 1)), vI (xs (6 * t + 2)), vI (xs (6 * t + 3))]) (rest := [vI a]) (st' := [vI a, vI a]) (73 + 312 * t + 3) (4780 + 936 * t + 63) DL_law_544 LL_64 rfl rfl rfl rfl rfl ⟨nle rfl, nle rfl, nle rfl⟩ ⟨by omega, by omega⟩ ⟨by omega, by omega⟩ gm rfl ?_
  exact x_icmp_eq 1108 DL_law_547 (by decide) (fun _ => x_widen (385 + 312 * t) (5716 + 936 * t) (by omega) (by omega) (back _ _ _ h2)) (fun q => absurd rfl q)
theorem law_hang {K : gK} {b L t : Nat} {xs : Nat → Int32} {ι : gIm} {ρ : gRm} {Λ : gLm} (hL : L ≤ 3072) (h6 : 6 * t + 6 ≤ L) (hI : Inv t ι ρ Λ) (back : backTo K b L xs t) : gX K (some (b, L, xs)) 37 600000 7302250 jL_law 552 [some (vB b), some (vR 0), some (vR 40), some (vI (nI (6 * t)))] [] (73 + 312 * t) (4780 + 936 * t) ι ρ Λ (fun r _ _ _ => r = some (vI 1)) := by
  obtain ⟨yr, wk, nh, nr, nb, ns, np, ch, h⟩ := hI
  obtain ⟨a, ι1, ρ1, Λ1, ι2, gx, gm, h2⟩ := o_hang h (xs (6 * t + 1)) (xs (6 * t + 2)) K
  refine x_aload_n 1 DL_law_552 rfl rfl ?_
  refine x_aload_n 0 DL_law_553 rfl rfl ?_
  refine x_iload_n 3 DL_law_554 rfl rfl ?_
  refine x_iconst 1 DL_law_555 (by decide) ?_
  refine x_iadd DL_law_556 ?_
  refine x_sld (6 * t + 1) (lix (k := 1) (by omega)) rfl DL_law_557 (lin (k := 1) (by omega) hL) ?_
  refine x_aload_n 0 DL_law_558 rfl rfl ?_
  refine x_iload_n 3 DL_law_559 rfl rfl ?_
  refine x_iconst 2 DL_law_560 (by decide) ?_
  refine x_iadd DL_law_561 ?_
  refine x_sld (6 * t + 2) (lix (k := 2) (by omega)) rfl DL_law_562 (lin (k := 2) (by omega) hL) ?_
  refine x_Ve (ci := 11) (av := [vI (xs (6 * t + 1)), vI (xs (6 * t + 2))]) (rest := []) (st' := [vI a]) (73 + 312 * t + 0) (4780 + 936 * t + 0) DL_law_563 LL_65 rfl rfl rfl rfl rfl ⟨nle rfl, nle rfl, nle rfl⟩ ⟨rfl, by omega⟩ ⟨rfl, by omega⟩ gx rfl ?_
  refine x_aload_n 2 DL_law_566 rfl rfl ?_
  refine x_aload_n 0 DL_law_567 rfl rfl ?_
  refine x_iload_n 3 DL_law_568 rfl rfl ?_
  refine x_iconst 1 DL_law_569 (by decide) ?_
  refine x_iadd DL_law_570 ?_
  refine x_sld (6 * t + 1) (lix (k := 1) (by omega)) rfl DL_law_571 (lin (k := 1) (by omega) hL) ?_
  refine x_aload_n 0 DL_law_572 rfl rfl ?_
  refine x_iload_n 3 DL_law_573 rfl rfl ?_
  refine x_iconst 2 DL_law_574 (by decide) ?_
  refine x_iadd DL_law_575 ?_
  refine x_sld (6 * t + 2) (lix (k := 2) (by omega)) rfl DL_law_576 (lin (k := 2) (by omega) hL) ?_
  refine x_Ve (ci := 12) (av := [vI (xs (6 * t + 1)), vI (xs (6 * t + 2))]) (rest := [vI a]) (st' := [vI a, vI a]) (73 + 312 * t + 0) (4780 + 936 * t + 0) DL_law_577 LL_68 rfl rfl rfl rfl rfl ⟨nle rfl, nle rfl, nle rfl⟩ ⟨by omega, by omega⟩ ⟨by omega, by omega⟩ gm rfl ?_
  exact x_icmp_eq 1108 DL_law_580 (by decide) (fun _ => x_widen (385 + 312 * t) (5716 + 936 * t) (by omega) (by omega) (back _ _ _ h2)) (fun q => absurd rfl q)
theorem law_cut {K : gK} {b L t : Nat} {xs : Nat → Int32} {ι : gIm} {ρ : gRm} {Λ : gLm} (hL : L ≤ 3072) (h6 : 6 * t + 6 ≤ L) (hI : Inv t ι ρ Λ) (back : backTo K b L xs t) : gX K (some (b, L, xs)) 37 600000 7302250 jL_law 585 [some (vB b), some (vR 0), some (vR 40), some (vI (nI (6 * t)))] [] (73 + 312 * t) (4780 + 936 * t) ι ρ Λ (fun r _ _ _ => r = some (vI 1)) := by
  obtain ⟨yr, wk, nh, nr, nb, ns, np, ch, h⟩ := hI
  obtain ⟨a, ι1, ρ1, Λ1, ι2, gx, gm, h2⟩ := o_cut h (xs (6 * t + 1)) K
  refine x_aload_n 1 DL_law_585 rfl rfl ?_
  refine x_aload_n 0 DL_law_586 rfl rfl ?_
  refine x_iload_n 3 DL_law_587 rfl rfl ?_
  refine x_iconst 1 DL_law_588 (by decide) ?_
  refine x_iadd DL_law_589 ?_
  refine x_sld (6 * t + 1) (lix (k := 1) (by omega)) rfl DL_law_590 (lin (k := 1) (by omega) hL) ?_
  refine x_Ve (ci := 11) (av := [vI (xs (6 * t + 1))]) (rest := []) (st' := [vI a]) (73 + 312 * t + 0) (4780 + 936 * t + 0) DL_law_591 LL_69 rfl rfl rfl rfl rfl ⟨nle rfl, nle rfl, nle rfl⟩ ⟨rfl, by omega⟩ ⟨rfl, by omega⟩ gx rfl ?_
  refine x_aload_n 2 DL_law_594 rfl rfl ?_
  refine x_aload_n 0 DL_law_595 rfl rfl ?_
  refine x_iload_n 3 DL_law_596 rfl rfl ?_
  refine x_iconst 1 DL_law_597 (by decide) ?_
  refine x_iadd DL_law_598 ?_
  refine x_sld (6 * t + 1) (lix (k := 1) (by omega)) rfl DL_law_599 (lin (k := 1) (by omega) hL) ?_
  refine x_Ve (ci := 12) (av := [vI (xs (6 * t + 1))]) (rest := [vI a]) (st' := [vI a, vI a]) (73 + 312 * t + 0) (4780 + 936 * t + 0) DL_law_600 LL_72 rfl rfl rfl rfl rfl ⟨nle rfl, nle rfl, nle rfl⟩ ⟨by omega, by omega⟩ ⟨by omega, by omega⟩ gm rfl ?_
  exact x_icmp_eq 1108 DL_law_603 (by decide) (fun _ => x_widen (385 + 312 * t) (5716 + 936 * t) (by omega) (by omega) (back _ _ _ h2)) (fun q => absurd rfl q)
theorem law_tension {K : gK} {b L t : Nat} {xs : Nat → Int32} {ι : gIm} {ρ : gRm} {Λ : gLm} (hL : L ≤ 3072) (h6 : 6 * t + 6 ≤ L) (hI : Inv t ι ρ Λ) (back : backTo K b L xs t) : gX K (some (b, L, xs)) 37 600000 7302250 jL_law 608 [some (vB b), some (vR 0), some (vR 40), some (vI (nI (6 * t)))] [] (73 + 312 * t) (4780 + 936 * t) ι ρ Λ (fun r _ _ _ => r = some (vI 1)) := by
  obtain ⟨yr, wk, nh, nr, nb, ns, np, ch, h⟩ := hI
  obtain ⟨a, ι1, ρ1, Λ1, ι2, gx, gm, h2⟩ := o_tension h (xs (6 * t + 1)) (xs (6 * t + 2)) K
  refine x_aload_n 1 DL_law_608 rfl rfl ?_
  refine x_aload_n 0 DL_law_609 rfl rfl ?_
  refine x_iload_n 3 DL_law_610 rfl rfl ?_
  refine x_iconst 1 DL_law_611 (by decide) ?_
  refine x_iadd DL_law_612 ?_
  refine x_sld (6 * t + 1) (lix (k := 1) (by omega)) rfl DL_law_613 (lin (k := 1) (by omega) hL) ?_
  refine x_aload_n 0 DL_law_614 rfl rfl ?_
  refine x_iload_n 3 DL_law_615 rfl rfl ?_
  refine x_iconst 2 DL_law_616 (by decide) ?_
  refine x_iadd DL_law_617 ?_
  refine x_sld (6 * t + 2) (lix (k := 2) (by omega)) rfl DL_law_618 (lin (k := 2) (by omega) hL) ?_
  refine x_Ve (ci := 11) (av := [vI (xs (6 * t + 1)), vI (xs (6 * t + 2))]) (rest := []) (st' := [vI a]) (73 + 312 * t + 0) (4780 + 936 * t + 0) DL_law_619 LL_73 rfl rfl rfl rfl rfl ⟨nle rfl, nle rfl, nle rfl⟩ ⟨rfl, by omega⟩ ⟨rfl, by omega⟩ gx rfl ?_
  refine x_aload_n 2 DL_law_622 rfl rfl ?_
  refine x_aload_n 0 DL_law_623 rfl rfl ?_
  refine x_iload_n 3 DL_law_624 rfl rfl ?_
  refine x_iconst 1 DL_law_625 (by decide) ?_
  refine x_iadd DL_law_626 ?_
  refine x_sld (6 * t + 1) (lix (k := 1) (by omega)) rfl DL_law_627 (lin (k := 1) (by omega) hL) ?_
  refine x_aload_n 0 DL_law_628 rfl rfl ?_
  refine x_iload_n 3 DL_law_629 rfl rfl ?_
  refine x_iconst 2 DL_law_630 (by decide) ?_
  refine x_iadd DL_law_631 ?_
  refine x_sld (6 * t + 2) (lix (k := 2) (by omega)) rfl DL_law_632 (lin (k := 2) (by omega) hL) ?_
  refine x_Ve (ci := 12) (av := [vI (xs (6 * t + 1)), vI (xs (6 * t + 2))]) (rest := [vI a]) (st' := [vI a, vI a]) (73 + 312 * t + 0) (4780 + 936 * t + 0) DL_law_633 LL_76 rfl rfl rfl rfl rfl ⟨nle rfl, nle rfl, nle rfl⟩ ⟨by omega, by omega⟩ ⟨by omega, by omega⟩ gm rfl ?_
  exact x_icmp_eq 1108 DL_law_636 (by decide) (fun _ => x_widen (385 + 312 * t) (5716 + 936 * t) (by omega) (by omega) (back _ _ _ h2)) (fun q => absurd rfl q)
theorem law_strength {K : gK} {b L t : Nat} {xs : Nat → Int32} {ι : gIm} {ρ : gRm} {Λ : gLm} (hL : L ≤ 3072) (h6 : 6 * t + 6 ≤ L) (hI : Inv t ι ρ Λ) (back : backTo K b L xs t) : gX K (some (b, L, xs)) 37 600000 7302250 jL_law 641 [some (vB b), some (vR 0), some (vR 40), some (vI (nI (6 * t)))] [] (73 + 312 * t) (4780 + 936 * t) ι ρ Λ (fun r _ _ _ => r = some (vI 1)) := by
  obtain ⟨yr, wk, nh, nr, nb, ns, np, ch, h⟩ := hI
  obtain ⟨a, ι1, ρ1, Λ1, ι2, gx, gm, h2⟩ := o_strength h (xs (6 * t + 1)) K
  refine x_aload_n 1 DL_law_641 rfl rfl ?_
  refine x_aload_n 0 DL_law_642 rfl rfl ?_
  refine x_iload_n 3 DL_law_643 rfl rfl ?_
  refine x_iconst 1 DL_law_644 (by decide) ?_
  refine x_iadd DL_law_645 ?_
  refine x_sld (6 * t + 1) (lix (k := 1) (by omega)) rfl DL_law_646 (lin (k := 1) (by omega) hL) ?_
  refine x_Ve (ci := 11) (av := [vI (xs (6 * t + 1))]) (rest := []) (st' := [vI a]) (73 + 312 * t + 0) (4780 + 936 * t + 0) DL_law_647 LL_77 rfl rfl rfl rfl rfl ⟨nle rfl, nle rfl, nle rfl⟩ ⟨rfl, by omega⟩ ⟨rfl, by omega⟩ gx rfl ?_
  refine x_aload_n 2 DL_law_650 rfl rfl ?_
  refine x_aload_n 0 DL_law_651 rfl rfl ?_
  refine x_iload_n 3 DL_law_652 rfl rfl ?_
  refine x_iconst 1 DL_law_653 (by decide) ?_
  refine x_iadd DL_law_654 ?_
  refine x_sld (6 * t + 1) (lix (k := 1) (by omega)) rfl DL_law_655 (lin (k := 1) (by omega) hL) ?_
  refine x_Ve (ci := 12) (av := [vI (xs (6 * t + 1))]) (rest := [vI a]) (st' := [vI a, vI a]) (73 + 312 * t + 0) (4780 + 936 * t + 0) DL_law_656 LL_80 rfl rfl rfl rfl rfl ⟨nle rfl, nle rfl, nle rfl⟩ ⟨by omega, by omega⟩ ⟨by omega, by omega⟩ gm rfl ?_
  exact x_icmp_eq 1108 DL_law_659 (by decide) (fun _ => x_widen (385 + 312 * t) (5716 + 936 * t) (by omega) (by omega) (back _ _ _ h2)) (fun q => absurd rfl q)