/-! the law, III -/
theorem and31 : ∀ v : Int32, ∃ c, c < 32 ∧ v &&& 31 = nI c := by
  intro v
  refine ⟨(v.toBitVec &&& 31#32).toNat, ?_, ?_⟩
  · rw [BitVec.toNat_and]
    exact Nat.lt_of_le_of_lt Nat.and_le_right (by decide)
  · refine Int32.toBitVec_inj.mp ?_
    rw [Int32.toBitVec_and]
    show v.toBitVec &&& 31#32 = BitVec.ofNat 32 (v.toBitVec &&& 31#32).toNat
    rw [BitVec.ofNat_toNat, BitVec.setWidth_eq]
theorem law_end {t L : Nat} (hL : L ≤ 3072) (ht : 6 * t ≤ 3072) : Int32.ofNat L - 6 < nI (6 * t) ↔ L < 6 * t + 6 := by
  show nI L - nI 6 < nI (6 * t) ↔ _
  by_cases h : 6 ≤ L
  · rw [nI_sub h, nI_lt1 (by omega) (by omega)]
    omega
  · have e : nI L - nI 6 = -(nI (6 - L)) := by
      rw [← nI_sub (by omega : L ≤ 6)]
      grind
    rw [e]
    exact ⟨fun _ => by omega, fun _ => Int32.lt_of_lt_of_le (nI_negL (by omega) (by omega)) (nI_pos' (by omega))⟩
theorem law_loop {K : gK} {b L : Nat} {xs : Nat → Int32} (hL : L ≤ 3072) : ∀ n t ι ρ Λ, t + n = 512 → Inv t ι ρ Λ → gX K (some (b, L, xs)) 37 600000 7302250 jL_law 18 [some (vB b), some (vR 0), some (vR 40), some (vI (nI (6 * t)))] [] (73 + 312 * t) (4780 + 936 * t) ι ρ Λ (fun r _ _ _ => r = some (vI 1)) := by
  have fin : ∀ t ι ρ Λ, t ≤ 512 → gX K (some (b, L, xs)) 37 600000 7302250 jL_law 1114 [some (vB b), some (vR 0), some (vR 40), some (vI (nI (6 * t)))] [] (73 + 312 * t) (4780 + 936 * t) ι ρ Λ (fun r _ _ _ => r = some (vI 1)) := by
    intro t ι ρ Λ ht
    refine x_iconst 1 DL_law_1114 (by decide) ?_
    refine x_widen 600000 7302250 (by omega) (by omega) ?_
    exact x_zreturn DL_law_1115 rfl (Or.inr rfl) rfl
  have head : ∀ t ι ρ Λ, t ≤ 512 → (6 * t + 6 ≤ L → gX K (some (b, L, xs)) 37 600000 7302250 jL_law 27 [some (vB b), some (vR 0), some (vR 40), some (vI (nI (6 * t)))] [] (73 + 312 * t) (4780 + 936 * t) ι ρ Λ (fun r _ _ _ => r = some (vI 1))) → gX K (some (b, L, xs)) 37 600000 7302250 jL_law 18 [some (vB b), some (vR 0), some (vR 40), some (vI (nI (6 * t)))] [] (73 + 312 * t) (4780 + 936 * t) ι ρ Λ (fun r _ _ _ => r = some (vI 1)) := by
    intro t ι ρ Λ ht k
    refine x_iload_n 3 DL_law_18 rfl rfl ?_
    refine x_aload_n 0 DL_law_19 rfl rfl ?_
    refine x_slen rfl DL_law_20 ?_
    refine x_bipush 6 DL_law_21 (by decide) ?_
    refine x_isub DL_law_23 ?_
    exact x_icmp_gt 1114 DL_law_24 (by decide) (fun _ => fin t ι ρ Λ ht) (fun q => k (Nat.le_of_not_lt (fun g => q ((law_end hL (by omega)).mpr g))))
  intro n
  induction n with
  | zero =>
    intro t ι ρ Λ ht _
    exact head t ι ρ Λ (by omega) (fun h => by omega)
  | succ n ih =>
    intro t ι ρ Λ ht hI
    refine head t ι ρ Λ (by omega) (fun h6 => ?_)
    have back : backTo K b L xs t := by
      intro ι ρ Λ hI
      refine x_iinc (nI (6 * (t + 1))) (lv' := [some (vB b), some (vR 0), some (vR 40), some (vI (nI (6 * (t + 1))))]) DL_law_1108 rfl (by show nI (6 * t) + nI 6 = _; rw [nI_add]; rfl) (nlt rfl) rfl ?_
      refine x_goto 18 DL_law_1111 (by decide) ?_
      have := ih (t + 1) ι ρ Λ (by omega) hI
      rw [show 73 + 312 * (t + 1) = 385 + 312 * t by omega, show 4780 + 936 * (t + 1) = 5716 + 936 * t by omega] at this
      exact this
    refine x_aload_n 0 DL_law_27 rfl rfl ?_
    refine x_iload_n 3 DL_law_28 rfl rfl ?_
    refine x_sld (6 * t) (nI_cl1 (by omega)) rfl DL_law_29 (gIn_nI (by omega) (by omega)) ?_
    refine x_bipush 31 DL_law_30 (by decide) ?_
    refine x_iand DL_law_32 ?_
    obtain ⟨c, hc, e⟩ := and31 (xs (6 * t))
    rw [e]
    have ei : (nI c).toInt = (c : Int) := nI_toInt (by omega)
    have sw : ∀ (off : Int) (tgt : Nat), #[143, 176, 199, 232, 275, 318, 351, 374, 397, 420, 433, 476, 519, 552, 575, 608, 631, 644, 667, 690, 713, 746, 779, 812, 875, 888, 901, 924, 957, 1006, 1019, 1052][c]? = some off → ((33 : Nat) : Int) + off = (tgt : Int) → gX K (some (b, L, xs)) 37 600000 7302250 jL_law tgt [some (vB b), some (vR 0), some (vR 40), some (vI (nI (6 * t)))] [] (73 + 312 * t) (4780 + 936 * t) ι ρ Λ (fun r _ _ _ => r = some (vI 1)) → gX K (some (b, L, xs)) 37 600000 7302250 jL_law 33 [some (vB b), some (vR 0), some (vR 40), some (vI (nI (6 * t)))] [vI (nI c)] (73 + 312 * t) (4780 + 936 * t) ι ρ Λ (fun r _ _ _ => r = some (vI 1)) := fun off tgt h1 h2 k => x_tableIn tgt c DL_law_33 (by rw [ei]; omega) (by rw [ei]; omega) (by rw [ei]; omega) h1 h2 k
    rcases (by omega : c = 0 ∨ c = 1 ∨ c = 2 ∨ c = 3 ∨ c = 4 ∨ c = 5 ∨ c = 6 ∨ c = 7 ∨ c = 8 ∨ c = 9 ∨ c = 10 ∨ c = 11 ∨ c = 12 ∨ c = 13 ∨ c = 14 ∨ c = 15 ∨ c = 16 ∨ c = 17 ∨ c = 18 ∨ c = 19 ∨ c = 20 ∨ c = 21 ∨ c = 22 ∨ c = 23 ∨ c = 24 ∨ c = 25 ∨ c = 26 ∨ c = 27 ∨ c = 28 ∨ c = 29 ∨ c = 30 ∨ c = 31) with q | q | q | q | q | q | q | q | q | q | q | q | q | q | q | q | q | q | q | q | q | q | q | q | q | q | q | q | q | q | q | q <;> subst q
    · exact sw 143 176 rfl (by decide) (law_rain hL h6 hI back)
    · exact sw 176 209 rfl (by decide) (law_rainOf hL h6 hI back)
    · exact sw 199 232 rfl (by decide) (law_house hL h6 hI back)
    · exact sw 232 265 rfl (by decide) (law_set hL h6 hI back)
    · exact sw 275 308 rfl (by decide) (law_bring hL h6 hI back)
    · exact sw 318 351 rfl (by decide) (law_brought hL h6 hI back)
    · exact sw 351 384 rfl (by decide) (law_ask hL h6 hI back)
    · exact sw 374 407 rfl (by decide) (law_share hL h6 hI back)
    · exact sw 397 430 rfl (by decide) (law_owed hL h6 hI back)
    · exact sw 420 453 rfl (by decide) (law_close hL h6 hI back)
    · exact sw 433 466 rfl (by decide) (law_small hL h6 hI back)
    · exact sw 476 509 rfl (by decide) (law_lay hL h6 hI back)
    · exact sw 519 552 rfl (by decide) (law_hang hL h6 hI back)
    · exact sw 552 585 rfl (by decide) (law_cut hL h6 hI back)
    · exact sw 575 608 rfl (by decide) (law_tension hL h6 hI back)
    · exact sw 608 641 rfl (by decide) (law_strength hL h6 hI back)
    · exact sw 631 664 rfl (by decide) (law_bears hL h6 hI back)
    · exact sw 644 677 rfl (by decide) (law_load hL h6 hI back)
    · exact sw 667 700 rfl (by decide) (law_weeks hL h6 hI back)
    · exact sw 690 723 rfl (by decide) (law_till hL h6 hI back)
    · exact sw 713 746 rfl (by decide) (law_broken hL h6 hI back)
    · exact sw 746 779 rfl (by decide) (law_blame hL h6 hI back)
    · exact sw 779 812 rfl (by decide) (law_strands hL h6 hI back)
    · exact sw 812 845 rfl (by decide) (law_step hL h6 hI back)
    · exact sw 875 908 rfl (by decide) (law_clear hL h6 hI back)
    · exact sw 888 921 rfl (by decide) (law_plan hL h6 hI back)
    · exact sw 901 934 rfl (by decide) (law_planAt hL h6 hI back)
    · exact sw 924 957 rfl (by decide) (law_person hL h6 hI back)
    · refine sw 957 990 rfl (by decide) ?_
      by_cases hz : xs (6 * t + 2) = 0
      · exact law_alive_0 hL h6 hI back hz
      · exact law_alive_1 hL h6 hI back hz
    · exact sw 1006 1039 rfl (by decide) (law_master hL h6 hI back)
    · exact sw 1019 1052 rfl (by decide) (law_ropeOf hL h6 hI back)
    · exact sw 1052 1085 rfl (by decide) (law_count hL h6 hI back)
theorem ini_m : ∀ c, c ∈ (nwL iL1 40).1 → c < 41 := by decide +kernel
theorem law_all {K : gK} {b L : Nat} {xs : Nat → Int32} (hL : L ≤ 3072) : gX K (some (b, L, xs)) 37 600000 7302250 jL_law 0 [some (vB b), none, none, none] [] 0 0 zI zR zL (fun r _ _ _ => r = some (vI 1)) := by
  refine x_new (ci := 11) 0 9 DL_law_0 rfl ("GrassBridge", gf11, 9) rfl rfl gw1_17 gw1_18 gw1_1 (by decide) (nle rfl) (nle rfl) (fun ι' ρ' Λ' e1 e2 e3 => ?_)
  subst e1; subst e2; subst e3
  refine x_dup DL_law_3 ?_
  refine x_Ie (c := 0) (av := []) (rest := [vR 0]) (st' := [vR 0]) 36 1908 DL_law_4 LL_9 rfl rfl ⟨nle rfl, nle rfl, nle rfl⟩ ⟨rfl, nle rfl⟩ ⟨rfl, nle rfl⟩ (x_init K (va_up zI 0 (fun _ => 0)) (va_up zR 0 (fun _ => none)) (nwL zL 0) (by decide) (by decide) (by decide) (by decide) (by decide) (by decide) (by decide) (by decide) (by decide) (by decide) (by decide) (by decide) (by decide) (by decide) (by decide) (by decide) (by decide) (by decide) (by decide) (by decide) (by decide) (by decide) (by decide) (by decide) (by decide) (by decide) (by decide) (by decide) (by decide) (by decide) (by decide) (by decide) (by decide) (by decide) (by decide)) rfl ?_
  refine x_astore_n 1 (lv' := [some (vB b), some (vR 0), none, none]) DL_law_7 rfl ⟨nlt rfl, nlt rfl⟩ rfl ?_
  refine x_new (ci := 12) 40 45 DL_law_8 rfl ("GrassBridgeModel", gf12, 45) rfl rfl gw4_75 gw4_76 gw1_10 (show 40 ∉ iL1.1 by decide +kernel) (nle rfl) (nle rfl) (fun ι' ρ' Λ' e1 e2 e3 => ?_)
  subst e1; subst e2; subst e3
  refine x_dup DL_law_11 ?_
  refine x_Ie (c := 40) (av := []) (rest := [vR 40]) (st' := [vR 40]) 73 4780 DL_law_12 LL_12 rfl rfl ⟨nle rfl, nle rfl, nle rfl⟩ ⟨rfl, nle rfl⟩ ⟨rfl, nle rfl⟩ (m_init K (va_up iI1 40 (fun _ => 0)) (va_up iR1 40 (fun _ => none)) (nwL iL1 40) (fun c h1 h2 h3 => by have := ini_m c h3; omega)) rfl ?_
  refine x_astore_n 2 (lv' := [some (vB b), some (vR 0), some (vR 40), none]) DL_law_15 rfl ⟨nlt rfl, nlt rfl⟩ rfl ?_
  refine x_iconst 0 DL_law_16 (by decide) ?_
  refine x_istore_n 3 (lv' := [some (vB b), some (vR 0), some (vR 40), some (vI (nI (6 * 0)))]) DL_law_17 rfl ⟨nlt rfl, nlt rfl⟩ rfl ?_
  exact law_loop hL 512 0 iI2 iR2 iL2 rfl ini_inv