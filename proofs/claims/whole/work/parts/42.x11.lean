/-! the class, XI: breaks, till -/
theorem x_findB (K : gK) (i : Int32) (ι : gIm) (ρ : gRm) (Λ : gLm) (hF : gFix ρ Λ) (nb : Nat) (hB : ι 14 1 = nI nb) (hb : nb ≤ 40) (hBl : ∀ i, i < nb → ρ 15 i = some (800 + i)) (f : 0 ≤ i ∧ i < nI nb) : gCe K 1 0 0 jX1_find [vR 14, vI i] ι ρ Λ (some (vR (800 + i.toNatClampNeg))) ι ρ Λ := by
  refine gC_of (by decide) (nle rfl) ?_
  refine x_iload_n 1 DX1_find_0 rfl rfl ?_
  refine x_if_lt 27 DX1_find_1 (by decide) (fun c_1 => False.elim (by grind)) (fun c_1 => ?_)
  refine x_iload_n 1 DX1_find_4 rfl rfl ?_
  refine x_aload_n 0 DX1_find_5 rfl rfl ?_
  refine x_geti (v := (nI nb)) 1 DX1_find_6 (Or.inl F1_17) rfl rfl hB ?_
  refine x_icmp_ge 27 DX1_find_9 (by decide) (fun c_9 => False.elim (by grind)) (fun c_9 => ?_)
  refine x_iload_n 1 DX1_find_12 rfl rfl ?_
  refine x_bipush 40 DX1_find_13 (by decide) ?_
  refine x_icmp_ge 27 DX1_find_15 (by decide) (fun c_15 => False.elim (by have h2 := (gIn_nn f hb (by omega)); have h3 : i < 40 := (show i < nI 40 from (by rw [h2.nI]; exact nI_lt h2.2 (by omega))); grind)) (fun c_15 => ?_)
  refine x_aload_n 0 DX1_find_18 rfl rfl ?_
  refine x_getr 0 (some 15) DX1_find_19 (Or.inr F1_11) rfl rfl (hF.1 14 0 15 rfl) ?_
  refine x_iload_n 1 DX1_find_22 rfl rfl ?_
  refine x_aald (t := 2) i.toNatClampNeg (some (800 + i.toNatClampNeg)) rfl DX1_find_23 rfl ⟨by decide, by decide⟩ (gIn.fx hF (c := 15) (n := 40) rfl (gIn_nn f hb (by omega))) (hBl _ (nn_i f (by omega))) ?_
  refine x_goto 28 DX1_find_24 (by decide) ?_
  exact x_areturn DX1_find_28 ⟨_, rfl, by first | exact Or.inl ⟨_, rfl⟩ | exact Or.inr ⟨_, rfl⟩⟩ ⟨rfl, rfl, rfl, rfl⟩
theorem x_findBN (K : gK) (i : Int32) (ι : gIm) (ρ : gRm) (Λ : gLm) (hF : gFix ρ Λ) (nb : Nat) (hB : ι 14 1 = nI nb) (hb : nb ≤ 40) (f : ¬ (0 ≤ i ∧ i < nI nb)) : gCe K 1 0 0 jX1_find [vR 14, vI i] ι ρ Λ (some vN) ι ρ Λ := by
  refine gC_of (by decide) (nle rfl) ?_
  refine x_iload_n 1 DX1_find_0 rfl rfl ?_
  refine x_if_lt 27 DX1_find_1 (by decide) (fun c_1 => ?_) (fun c_1 => ?_)
  · refine x_null DX1_find_27 ?_
    exact x_areturn DX1_find_28 ⟨_, rfl, by first | exact Or.inl ⟨_, rfl⟩ | exact Or.inr ⟨_, rfl⟩⟩ ⟨rfl, rfl, rfl, rfl⟩
  · refine x_iload_n 1 DX1_find_4 rfl rfl ?_
    refine x_aload_n 0 DX1_find_5 rfl rfl ?_
    refine x_geti (v := (nI nb)) 1 DX1_find_6 (Or.inl F1_17) rfl rfl hB ?_
    refine x_icmp_ge 27 DX1_find_9 (by decide) (fun c_9 => ?_) (fun c_9 => ?_)
    · refine x_null DX1_find_27 ?_
      exact x_areturn DX1_find_28 ⟨_, rfl, by first | exact Or.inl ⟨_, rfl⟩ | exact Or.inr ⟨_, rfl⟩⟩ ⟨rfl, rfl, rfl, rfl⟩
    · refine x_iload_n 1 DX1_find_12 rfl rfl ?_
      refine x_bipush 40 DX1_find_13 (by decide) ?_
      refine x_icmp_ge 27 DX1_find_15 (by decide) (fun c_15 => ?_) (fun c_15 => False.elim (f ⟨by grind, by grind⟩))
      refine x_null DX1_find_27 ?_
      exact x_areturn DX1_find_28 ⟨_, rfl, by first | exact Or.inl ⟨_, rfl⟩ | exact Or.inr ⟨_, rfl⟩⟩ ⟨rfl, rfl, rfl, rfl⟩
theorem x_broken (K : gK) (i what : Int32) (ι : gIm) (ρ : gRm) (Λ : gLm) (hF : gFix ρ Λ) (nr : Nat) (hNr : ∀ r, r < nr → ι (200 + r) 0 = nI r) (hr0 : nr ≤ 200) (nb : Nat) (hB : ι 14 1 = nI nb) (hb : nb ≤ 40) (bk : Nat → Nat) (hBk : ∀ i, i < nb → ρ 15 i = some (800 + i) ∧ ρ (800 + i) 0 = some (200 + bk i) ∧ bk i < nr) : gCe K 2 0 0 jX11_broken [vR 0, vI i, vI what] ι ρ Λ (some (vI (rs (cBroken what) (xBroken ι bk nb i what)))) (rsM (cBroken what) 1 ι ι) ρ Λ := by
  refine gC_of (by decide) (nle rfl) ?_
  by_cases f_i : 0 ≤ i ∧ i < nI nb
  · have b_i := nn_i f_i (by omega)
    have b_r := (hBk _ b_i).2.2
    refine x_iload_n 2 DX11_broken_0 rfl rfl ?_
    refine x_if_lt 9 DX11_broken_1 (by decide) (fun c_1 => ?_) (fun c_1 => ?_)
    · refine x_aload_n 0 DX11_broken_9 rfl rfl ?_
      refine x_bipush (-2) DX11_broken_10 (by decide) ?_
      refine x_Ve (ci := 11) (av := [vI (-2)]) (rest := []) (st' := [vI (-2)]) 0 0 DX11_broken_12 L11_72 rfl rfl rfl rfl rfl ⟨nle rfl, nle rfl, nle rfl⟩ ⟨rfl, nle rfl⟩ ⟨rfl, nle rfl⟩ (x_refuse K (-2) ι ρ Λ hF ⟨by decide, by decide⟩) rfl ?_
      refine x_nmι (fun ι12 e_ι12 => ?_)
      exact x_ireturn DX11_broken_15 rfl ⟨by grind [cBroken, rs, xBroken], by grind [cBroken, rsM], rfl, rfl⟩
    · refine x_iload_n 2 DX11_broken_4 rfl rfl ?_
      refine x_iconst 2 DX11_broken_5 (by decide) ?_
      refine x_icmp_le 16 DX11_broken_6 (by decide) (fun c_6 => ?_) (fun c_6 => ?_)
      · refine x_aload_n 0 DX11_broken_16 rfl rfl ?_
        refine x_getr 5 (some 14) DX11_broken_17 (Or.inr F11_44) rfl rfl (hF.1 0 5 14 rfl) ?_
        refine x_iload_n 1 DX11_broken_20 rfl rfl ?_
        refine x_Ve (ci := 1) (av := [vI i]) (rest := []) (st' := [vR (800 + i.toNatClampNeg)]) 0 0 DX11_broken_21 L11_236 rfl rfl rfl rfl rfl ⟨nle rfl, nle rfl, nle rfl⟩ ⟨rfl, nle rfl⟩ ⟨rfl, nle rfl⟩ (x_findB K i ι ρ Λ hF nb hB hb (fun i h => (hBk i h).1) f_i) rfl ?_
        refine x_astore_n 3 (lv' := [some (vR 0), some (vI i), some (vI what), some (vR (800 + i.toNatClampNeg))]) DX11_broken_24 rfl ⟨nlt rfl, nlt rfl⟩ rfl ?_
        refine x_aload_n 3 DX11_broken_25 rfl rfl ?_
        refine x_ifnonnull 32 DX11_broken_26 (by decide) (fun _ _ => ?_) (fun h => by cases h)
        refine x_iload_n 2 DX11_broken_32 rfl rfl ?_
        refine x_if_ne 46 DX11_broken_33 (by decide) (fun c_33 => ?_) (fun c_33 => ?_)
        · refine x_iload_n 2 DX11_broken_46 rfl rfl ?_
          refine x_iconst 1 DX11_broken_47 (by decide) ?_
          refine x_icmp_ne 58 DX11_broken_48 (by decide) (fun c_48 => ?_) (fun c_48 => ?_)
          · refine x_aload_n 3 DX11_broken_58 rfl rfl ?_
            refine x_geti (v := (ι (800 + i.toNatClampNeg) 2)) 2 DX11_broken_59 (Or.inr F11_246) (shp_brk (by omega)) rfl rfl ?_
            exact x_ireturn DX11_broken_62 rfl ⟨by grind [cBroken, rs, xBroken], by grind [cBroken, rsM], rfl, rfl⟩
          · refine x_aload_n 3 DX11_broken_51 rfl rfl ?_
            refine x_geti (v := (ι (800 + i.toNatClampNeg) 1)) 1 DX11_broken_52 (Or.inr F11_245) (shp_brk (by omega)) rfl rfl ?_
            refine x_goto 62 DX11_broken_55 (by decide) ?_
            exact x_ireturn DX11_broken_62 rfl ⟨by grind [cBroken, rs, xBroken], by grind [cBroken, rsM], rfl, rfl⟩
        · refine x_aload_n 3 DX11_broken_36 rfl rfl ?_
          refine x_getr 0 (some (200 + bk i.toNatClampNeg)) DX11_broken_37 (Or.inr F11_239) (shp_brk (by omega)) rfl (hBk _ b_i).2.1 ?_
          refine x_geti (v := (nI (bk i.toNatClampNeg))) 0 DX11_broken_40 (Or.inr F11_223) (shp_rope (by omega)) rfl (hNr _ (hBk _ b_i).2.2) ?_
          refine x_goto 62 DX11_broken_43 (by decide) ?_
          exact x_ireturn DX11_broken_62 rfl ⟨by grind [cBroken, rs, xBroken], by grind [cBroken, rsM], rfl, rfl⟩
      · refine x_aload_n 0 DX11_broken_9 rfl rfl ?_
        refine x_bipush (-2) DX11_broken_10 (by decide) ?_
        refine x_Ve (ci := 11) (av := [vI (-2)]) (rest := []) (st' := [vI (-2)]) 0 0 DX11_broken_12 L11_72 rfl rfl rfl rfl rfl ⟨nle rfl, nle rfl, nle rfl⟩ ⟨rfl, nle rfl⟩ ⟨rfl, nle rfl⟩ (x_refuse K (-2) ι ρ Λ hF ⟨by decide, by decide⟩) rfl ?_
        refine x_nmι (fun ι12 e_ι12 => ?_)
        exact x_ireturn DX11_broken_15 rfl ⟨by grind [cBroken, rs, xBroken], by grind [cBroken, rsM], rfl, rfl⟩
  · refine x_iload_n 2 DX11_broken_0 rfl rfl ?_
    refine x_if_lt 9 DX11_broken_1 (by decide) (fun c_1 => ?_) (fun c_1 => ?_)
    · refine x_aload_n 0 DX11_broken_9 rfl rfl ?_
      refine x_bipush (-2) DX11_broken_10 (by decide) ?_
      refine x_Ve (ci := 11) (av := [vI (-2)]) (rest := []) (st' := [vI (-2)]) 0 0 DX11_broken_12 L11_72 rfl rfl rfl rfl rfl ⟨nle rfl, nle rfl, nle rfl⟩ ⟨rfl, nle rfl⟩ ⟨rfl, nle rfl⟩ (x_refuse K (-2) ι ρ Λ hF ⟨by decide, by decide⟩) rfl ?_
      refine x_nmι (fun ι12 e_ι12 => ?_)
      exact x_ireturn DX11_broken_15 rfl ⟨by grind [cBroken, rs, xBroken], by grind [cBroken, rsM], rfl, rfl⟩
    · refine x_iload_n 2 DX11_broken_4 rfl rfl ?_
      refine x_iconst 2 DX11_broken_5 (by decide) ?_
      refine x_icmp_le 16 DX11_broken_6 (by decide) (fun c_6 => ?_) (fun c_6 => ?_)
      · refine x_aload_n 0 DX11_broken_16 rfl rfl ?_
        refine x_getr 5 (some 14) DX11_broken_17 (Or.inr F11_44) rfl rfl (hF.1 0 5 14 rfl) ?_
        refine x_iload_n 1 DX11_broken_20 rfl rfl ?_
        refine x_Ve (ci := 1) (av := [vI i]) (rest := []) (st' := [vN]) 0 0 DX11_broken_21 L11_236 rfl rfl rfl rfl rfl ⟨nle rfl, nle rfl, nle rfl⟩ ⟨rfl, nle rfl⟩ ⟨rfl, nle rfl⟩ (x_findBN K i ι ρ Λ hF nb hB hb f_i) rfl ?_
        refine x_astore_n 3 (lv' := [some (vR 0), some (vI i), some (vI what), some (vN)]) DX11_broken_24 rfl ⟨nlt rfl, nlt rfl⟩ rfl ?_
        refine x_aload_n 3 DX11_broken_25 rfl rfl ?_
        refine x_ifnonnull 32 DX11_broken_26 (by decide) (fun _ h => by cases h) (fun _ => ?_)
        refine x_bipush (-9) DX11_broken_29 (by decide) ?_
        exact x_ireturn DX11_broken_31 rfl ⟨by grind [cBroken, rs, xBroken], by grind [cBroken, rsM], rfl, rfl⟩
      · refine x_aload_n 0 DX11_broken_9 rfl rfl ?_
        refine x_bipush (-2) DX11_broken_10 (by decide) ?_
        refine x_Ve (ci := 11) (av := [vI (-2)]) (rest := []) (st' := [vI (-2)]) 0 0 DX11_broken_12 L11_72 rfl rfl rfl rfl rfl ⟨nle rfl, nle rfl, nle rfl⟩ ⟨rfl, nle rfl⟩ ⟨rfl, nle rfl⟩ (x_refuse K (-2) ι ρ Λ hF ⟨by decide, by decide⟩) rfl ?_
        refine x_nmι (fun ι12 e_ι12 => ?_)
        exact x_ireturn DX11_broken_15 rfl ⟨by grind [cBroken, rs, xBroken], by grind [cBroken, rsM], rfl, rfl⟩
theorem x_blame (K : gK) (i h : Int32) (ι : gIm) (ρ : gRm) (Λ : gLm) (hF : gFix ρ Λ) (nh : Nat) (hH : ι 4 2 = nI nh) (hn : nh ≤ 24) (hAl : ∀ i, i < nh → ρ 5 i = some (100 + i)) (nr : Nat) (hr0 : nr ≤ 200) (hOw : ∀ r, r < nr → ρ (200 + r) 4 = some (400 + r) ∧ ρ (200 + r) 5 = some (600 + r)) (hLn : ∀ r, r < nr → Λ.2 (400 + r) = cn (ι (200 + r) 1) ∧ Λ.2 (600 + r) = cn (ι (200 + r) 1)) (nb : Nat) (hB : ι 14 1 = nI nb) (hb : nb ≤ 40) (bk : Nat → Nat) (hBk : ∀ i, i < nb → ρ 15 i = some (800 + i) ∧ ρ (800 + i) 0 = some (200 + bk i) ∧ bk i < nr) : gCe K 4 0 0 jX11_blame [vR 0, vI i, vI h] ι ρ Λ (some (vI (rs (cTwo i (nI nb) h (nI nh)) (xWeak (ι (400 + bk i.toNatClampNeg)) (ι (600 + bk i.toNatClampNeg)) (cn (ι (200 + bk i.toNatClampNeg) 1)) h)))) (rsM (cTwo i (nI nb) h (nI nh)) 1 ι ι) ρ Λ := by
  refine gC_of (by decide) (nle rfl) ?_
  by_cases f_i : 0 ≤ i ∧ i < nI nb
  · have b_i := nn_i f_i (by omega)
    have b_r := (hBk _ b_i).2.2
    refine x_aload_n 0 DX11_blame_0 rfl rfl ?_
    refine x_getr 5 (some 14) DX11_blame_1 (Or.inr F11_44) rfl rfl (hF.1 0 5 14 rfl) ?_
    refine x_iload_n 1 DX11_blame_4 rfl rfl ?_
    refine x_Ve (ci := 1) (av := [vI i]) (rest := []) (st' := [vR (800 + i.toNatClampNeg)]) 0 0 DX11_blame_5 L11_236 rfl rfl rfl rfl rfl ⟨nle rfl, nle rfl, nle rfl⟩ ⟨rfl, nle rfl⟩ ⟨rfl, nle rfl⟩ (x_findB K i ι ρ Λ hF nb hB hb (fun i h => (hBk i h).1) f_i) rfl ?_
    refine x_astore_n 3 (lv' := [some (vR 0), some (vI i), some (vI h), some (vR (800 + i.toNatClampNeg))]) DX11_blame_8 rfl ⟨nlt rfl, nlt rfl⟩ rfl ?_
    refine x_aload_n 3 DX11_blame_9 rfl rfl ?_
    refine x_ifnull 24 DX11_blame_10 (by decide) (fun h => by cases h) (fun _ _ => ?_)
    by_cases f_h : 0 ≤ h ∧ h < nI nh
    · have b_h := nn_i f_h (by omega)
      refine x_aload_n 0 DX11_blame_13 rfl rfl ?_
      refine x_getr 2 (some 4) DX11_blame_14 (Or.inr F11_23) rfl rfl (hF.1 0 2 4 rfl) ?_
      refine x_iload_n 2 DX11_blame_17 rfl rfl ?_
      refine x_Ve (ci := 3) (av := [vI h]) (rest := []) (st' := [vR (100 + h.toNatClampNeg)]) 0 0 DX11_blame_18 L11_139 rfl rfl rfl rfl rfl ⟨nle rfl, nle rfl, nle rfl⟩ ⟨rfl, nle rfl⟩ ⟨rfl, nle rfl⟩ (x_findH K h ι ρ Λ hF nh hH hn hAl f_h) rfl ?_
      refine x_ifnonnull 32 DX11_blame_21 (by decide) (fun _ _ => ?_) (fun h => by cases h)
      refine x_aload_n 3 DX11_blame_32 rfl rfl ?_
      refine x_getr 0 (some (200 + bk i.toNatClampNeg)) DX11_blame_33 (Or.inr F11_239) (shp_brk (by omega)) rfl (hBk _ b_i).2.1 ?_
      refine x_iload_n 2 DX11_blame_36 rfl rfl ?_
      refine x_Ve (ci := 6) (av := [vI h]) (rest := []) (st' := [vI (xWeak (ι (400 + (bk i.toNatClampNeg))) (ι (600 + (bk i.toNatClampNeg))) (cn (ι (200 + (bk i.toNatClampNeg)) 1)) h)]) 0 0 DX11_blame_37 L11_247 rfl rfl (shp_rope (by omega)) rfl rfl ⟨nle rfl, nle rfl, nle rfl⟩ ⟨rfl, nle rfl⟩ ⟨rfl, nle rfl⟩ (x_weakestOf K h ι ρ Λ (bk i.toNatClampNeg) (by omega) _ (cn_le _) (hOw _ (by omega)).1 (hOw _ (by omega)).2 (hLn _ (by omega)).1 (hLn _ (by omega)).2) rfl ?_
      exact x_ireturn DX11_blame_40 rfl ⟨by grind [cTwo, rs], by grind [cTwo, rsM], rfl, rfl⟩
    · refine x_aload_n 0 DX11_blame_13 rfl rfl ?_
      refine x_getr 2 (some 4) DX11_blame_14 (Or.inr F11_23) rfl rfl (hF.1 0 2 4 rfl) ?_
      refine x_iload_n 2 DX11_blame_17 rfl rfl ?_
      refine x_Ve (ci := 3) (av := [vI h]) (rest := []) (st' := [vN]) 0 0 DX11_blame_18 L11_139 rfl rfl rfl rfl rfl ⟨nle rfl, nle rfl, nle rfl⟩ ⟨rfl, nle rfl⟩ ⟨rfl, nle rfl⟩ (x_findN K h ι ρ Λ hF nh hH hn f_h) rfl ?_
      refine x_ifnonnull 32 DX11_blame_21 (by decide) (fun _ h => by cases h) (fun _ => ?_)
      refine x_aload_n 0 DX11_blame_24 rfl rfl ?_
      refine x_iconst (-1) DX11_blame_25 (by decide) ?_
      refine x_Ve (ci := 11) (av := [vI (-1)]) (rest := []) (st' := [vI (-1)]) 0 0 DX11_blame_26 L11_72 rfl rfl rfl rfl rfl ⟨nle rfl, nle rfl, nle rfl⟩ ⟨rfl, nle rfl⟩ ⟨rfl, nle rfl⟩ (x_refuse K (-1) ι ρ Λ hF ⟨by decide, by decide⟩) rfl ?_
      refine x_nmι (fun ι26 e_ι26 => ?_)
      refine x_goto 40 DX11_blame_29 (by decide) ?_
      exact x_ireturn DX11_blame_40 rfl ⟨by grind [cTwo, rs], by grind [cTwo, rsM], rfl, rfl⟩
  · refine x_aload_n 0 DX11_blame_0 rfl rfl ?_
    refine x_getr 5 (some 14) DX11_blame_1 (Or.inr F11_44) rfl rfl (hF.1 0 5 14 rfl) ?_
    refine x_iload_n 1 DX11_blame_4 rfl rfl ?_
    refine x_Ve (ci := 1) (av := [vI i]) (rest := []) (st' := [vN]) 0 0 DX11_blame_5 L11_236 rfl rfl rfl rfl rfl ⟨nle rfl, nle rfl, nle rfl⟩ ⟨rfl, nle rfl⟩ ⟨rfl, nle rfl⟩ (x_findBN K i ι ρ Λ hF nb hB hb f_i) rfl ?_
    refine x_astore_n 3 (lv' := [some (vR 0), some (vI i), some (vI h), some (vN)]) DX11_blame_8 rfl ⟨nlt rfl, nlt rfl⟩ rfl ?_
    refine x_aload_n 3 DX11_blame_9 rfl rfl ?_
    refine x_ifnull 24 DX11_blame_10 (by decide) (fun _ => ?_) (fun _ h => by cases h)
    refine x_aload_n 0 DX11_blame_24 rfl rfl ?_
    refine x_iconst (-1) DX11_blame_25 (by decide) ?_
    refine x_Ve (ci := 11) (av := [vI (-1)]) (rest := []) (st' := [vI (-1)]) 0 0 DX11_blame_26 L11_72 rfl rfl rfl rfl rfl ⟨nle rfl, nle rfl, nle rfl⟩ ⟨rfl, nle rfl⟩ ⟨rfl, nle rfl⟩ (x_refuse K (-1) ι ρ Λ hF ⟨by decide, by decide⟩) rfl ?_
    refine x_nmι (fun ι26 e_ι26 => ?_)
    refine x_goto 40 DX11_blame_29 (by decide) ?_
    exact x_ireturn DX11_blame_40 rfl ⟨by grind [cTwo, rs], by grind [cTwo, rsM], rfl, rfl⟩
theorem x_Break (K : gK) (year week : Int32) (ι : gIm) (ρ : gRm) (Λ : gLm) (i r : Nat) (hi : i < 100) (hr : r < 200) : gCe K 1 0 0 jX0_init [vR (800 + i), vR (200 + r), vI year, vI week] ι ρ Λ none (up2 (up2 ι (800 + i) 1 year) (800 + i) 2 week) (up2 ρ (800 + i) 0 (some (200 + r))) Λ := by
  refine gC_of (by decide) (nle rfl) ?_
  refine x_aload_n 0 DX0_init_0 rfl rfl ?_
  refine x_objInit DX0_init_1 gw2_127 gw1_23 gw1_24 (nle rfl) (nle rfl) ?_
  refine x_aload_n 0 DX0_init_4 rfl rfl ?_
  refine x_aload_n 1 DX0_init_5 rfl rfl ?_
  refine x_putrF 0 DX0_init_6 F0_7 rfl rfl (shp_brk (by omega)) (by first | exact Or.inl ⟨_, rfl⟩ | exact Or.inr ⟨_, rfl⟩) rfl (fun ρ6 e_ρ6 => ?_)
  refine x_aload_n 0 DX0_init_9 rfl rfl ?_
  refine x_iload_n 2 DX0_init_10 rfl rfl ?_
  refine x_putiF 1 DX0_init_11 F0_13 rfl rfl (shp_brk (by omega)) (Or.inl rfl) rfl (fun ι11 e_ι11 => ?_)
  refine x_aload_n 0 DX0_init_14 rfl rfl ?_
  refine x_iload_n 3 DX0_init_15 rfl rfl ?_
  refine x_putiF 2 DX0_init_16 F0_17 rfl rfl (shp_brk (by omega)) (Or.inl rfl) rfl (fun ι16 e_ι16 => ?_)
  exact x_return DX0_init_19 rfl ⟨rfl, by subst_vars; rfl, by subst_vars; rfl, rfl⟩
theorem x_keep (K : gK) (year week : Int32) (ι : gIm) (ρ : gRm) (Λ : gLm) (hF : gFix ρ Λ) (r : Nat) (hr : r < 200) (nb : Nat) (hB : ι 14 1 = nI nb) (hb : nb ≤ 40) (hfb : nb < 40 → 800 + nb ∉ Λ.1) : gCe K 2 1 3 jX1_keep [vR 14, vR (200 + r), vI year, vI week] ι ρ Λ none (xKeepI ι nb year week) (xKeepR ρ nb r) (xKeepL Λ nb) := by
  refine gC_of (by decide) (nle rfl) ?_
  refine x_aload_n 1 DX1_keep_0 rfl rfl ?_
  refine x_ifnull 42 DX1_keep_1 (by decide) (fun h => by cases h) (fun _ _ => ?_)
  refine x_aload_n 0 DX1_keep_4 rfl rfl ?_
  refine x_geti (v := (nI nb)) 1 DX1_keep_5 (Or.inl F1_17) rfl rfl hB ?_
  refine x_bipush 40 DX1_keep_8 (by decide) ?_
  refine x_icmp_ge 42 DX1_keep_10 (by decide) (fun c_10 => ?_) (fun c_10 => ?_)
  · have hn40 : nb = 40 := by rw [show (40 : Int32) = nI 40 from rfl, nI_le1 (by omega) (by omega)] at c_10; omega
    refine x_widen 1 3 (nle rfl) (nle rfl) ?_
    exact x_return DX1_keep_42 rfl ⟨rfl, by rw [xKeepI, if_pos hn40], by rw [xKeepR, if_pos hn40], by rw [xKeepL, if_pos hn40]⟩
  · have hn40 : nb < 40 := by rw [show (40 : Int32) = nI 40 from rfl, nI_le1 (by omega) (by omega)] at c_10; omega
    refine x_aload_n 0 DX1_keep_13 rfl rfl ?_
    refine x_getr 0 (some 15) DX1_keep_14 (Or.inr F1_11) rfl rfl (hF.1 14 0 15 rfl) ?_
    refine x_aload_n 0 DX1_keep_17 rfl rfl ?_
    refine x_geti (v := (nI nb)) 1 DX1_keep_18 (Or.inl F1_17) rfl rfl hB ?_
    refine x_new (ci := 0) (800 + nb) 3 DX1_keep_21 (shp_brk (by omega)) ("GrassBridge$Break", gf0, 3) rfl rfl gw1_113 gw2_123 gw1_15 (hfb hn40) (nle rfl) (nle rfl) (fun ι21 ρ21 Λ21 e_ι21 e_ρ21 e_Λ21 => ?_)
    refine x_widen 1 3 (nle rfl) (nle rfl) ?_
    have hF21 := gFix_new hF (c := 800 + nb) (by omega) e_ρ21 e_Λ21
    refine x_dup DX1_keep_24 ?_
    refine x_aload_n 1 DX1_keep_25 rfl rfl ?_
    refine x_iload_n 2 DX1_keep_26 rfl rfl ?_
    refine x_iload_n 3 DX1_keep_27 rfl rfl ?_
    refine x_Ie (av := [vR (200 + r), vI year, vI week]) (rest := [vR (800 + nb), vI (nI nb), vR 15]) (st' := [vR (800 + nb), vI (nI nb), vR 15]) 1 3 DX1_keep_28 L1_21 rfl rfl ⟨nle rfl, nle rfl, nle rfl⟩ ⟨rfl, nle rfl⟩ ⟨rfl, nle rfl⟩ (x_Break K year week ι21 ρ21 Λ21 nb r (by omega) (by omega)) rfl ?_
    refine x_nmι (fun ι28 e_ι28 => ?_)
    refine x_nmρ (fun ρ28 e_ρ28 => ?_)
    have hF28 := gFix_up hF21 (gst_none (by omega)) e_ρ28
    refine x_aast (t := 2) (ci := 0) nb (nI_cl1 (by omega)) DX1_keep_31 rfl ⟨by decide, by decide⟩ (gIn.fx hF28 (c := 15) (n := 40) rfl (gIn_nI (by omega) (by omega))) (shp_brk (by omega)) rfl (fun ρ31 e_ρ31 => ?_)
    have hF32 := gFix_up hF28 (gst_arr (by decide)) e_ρ31
    refine x_aload_n 0 DX1_keep_32 rfl rfl ?_
    refine x_dup DX1_keep_33 ?_
    refine x_geti (v := (nI nb)) 1 DX1_keep_34 (Or.inl F1_17) rfl rfl (by rw [e_ι28, up2_ne _ _ _ (by omega), up2_ne _ _ _ (by omega), e_ι21, va_up_ne _ _ (by omega)]; exact hB) ?_
    refine x_iconst 1 DX1_keep_37 (by decide) ?_
    refine x_iadd DX1_keep_38 ?_
    refine x_puti 1 DX1_keep_39 F1_17 rfl (Or.inl rfl) rfl (fun ι39 e_ι39 => ?_)
    exact x_return DX1_keep_42 rfl ⟨rfl, by rw [xKeepI, if_neg (by omega)]; subst_vars; rfl, by rw [xKeepR, if_neg (by omega)]; subst_vars; rfl, by rw [xKeepL, if_neg (by omega)]; subst_vars; rfl⟩
theorem x_till (K : gK) (v : Int32) (ι : gIm) (ρ : gRm) (Λ : gLm) (hF : gFix ρ Λ) (sp : Nat → Option Nat) (hSp : ∀ p, p < 6 → ρ 10 p = (sp p).map (200 + ·)) (hSr : ∀ p r, p < 6 → sp p = some r → r < 200) (ht : ∀ k, k < 52 → -1 ≤ ι 3 k ∧ ι 3 k ≤ 9) (hSle : ∀ mm, mm ≤ 936 → ∀ p, p < 4 → sStX ι sp (ι 2 0) (nI mm) p ≤ 2430) (wk : Nat) (hW : ι 2 1 = nI wk) (hw : wk ≤ 52) : gCe K 6 0 0 jX11_till [vR 0, vI v] ι ρ Λ (some (vI (rs (wr v 0 2000) (sTill (sLetX ι sp (ι 2 0) v) (sWet (ι 3)) wk (53 - wk) 0 0)))) (rsM (wr v 0 2000) 1 ι ι) ρ Λ := by
  refine gC_of (by decide) (nle rfl) ?_
  refine x_iload_n 1 DX11_till_0 rfl rfl ?_
  refine x_iconst 0 DX11_till_1 (by decide) ?_
  refine x_sipush 2000 DX11_till_2 (by decide) ?_
  refine x_Se (av := [vI v, vI 0, vI 2000]) (rest := []) (st' := [vI (wr v 0 2000)]) 0 0 DX11_till_5 L11_83 rfl rfl ⟨nle rfl, nle rfl, nle rfl⟩ ⟨rfl, nle rfl⟩ ⟨rfl, nle rfl⟩ (x_misfit K v 0 2000 ι ρ Λ) rfl ?_
  refine x_istore_n 2 (lv' := [some (vR 0), some (vI v), some (vI (wr v 0 2000)), none, none]) DX11_till_8 rfl ⟨nlt rfl, nlt rfl⟩ rfl ?_
  refine x_iload_n 2 DX11_till_9 rfl rfl ?_
  refine x_if_eq 19 DX11_till_10 (by decide) (fun c_10 => ?_) (fun c_10 => ?_)
  · refine x_aload_n 0 DX11_till_19 rfl rfl ?_
    refine x_getr 4 (some 9) DX11_till_20 (Or.inr F11_37) rfl rfl (hF.1 0 4 9 rfl) ?_
    refine x_iload_n 1 DX11_till_23 rfl rfl ?_
    refine x_aload_n 0 DX11_till_24 rfl rfl ?_
    refine x_getr 1 (some 2) DX11_till_25 (Or.inr F11_16) rfl rfl (hF.1 0 1 2 rfl) ?_
    refine x_geti (v := (ι 2 0)) 0 DX11_till_28 (Or.inl F11_94) rfl rfl rfl ?_
    refine x_iconst 0 DX11_till_31 (by decide) ?_
    refine x_Ve (ci := 9) (av := [vI v, vI (ι 2 0), vI 0]) (rest := []) (st' := [vI (sLetX ι sp (ι 2 0) v 0)]) 0 0 DX11_till_32 L11_232 rfl rfl rfl rfl rfl ⟨nle rfl, nle rfl, nle rfl⟩ ⟨rfl, nle rfl⟩ ⟨rfl, nle rfl⟩ (x_lets K v (ι 2 0) 0 ι ρ Λ hF sp hSp hSr (hSle 0 (by omega))) rfl ?_
    refine x_if_ne 40 DX11_till_35 (by decide) (fun c_35 => ?_) (fun c_35 => ?_)
    · refine x_iconst 0 DX11_till_40 (by decide) ?_
      refine x_istore_n 3 (lv' := [some (vR 0), some (vI v), some (vI (wr v 0 2000)), some (vI 0), none]) DX11_till_41 rfl ⟨nlt rfl, nlt rfl⟩ rfl ?_
      refine x_aload_n 0 DX11_till_42 rfl rfl ?_
      refine x_getr 1 (some 2) DX11_till_43 (Or.inr F11_16) rfl rfl (hF.1 0 1 2 rfl) ?_
      refine x_geti (v := (nI wk)) 1 DX11_till_46 (Or.inl F11_104) rfl rfl hW ?_
      refine x_istore (lv' := [some (vR 0), some (vI v), some (vI (wr v 0 2000)), some (vI 0), some (vI (nI wk))]) DX11_till_49 ⟨nlt rfl, nlt rfl⟩ rfl ?_
      have loop : ∀ (n k mm : Nat), k + n = 52 - wk → mm ≤ 18 * k → (sTill (sLetX ι sp (ι 2 0) v) (sWet (ι 3)) wk n (k + 1) (if wk + k < 52 then nI mm + sWet (ι 3) (wk + k) else nI mm)) = (sTill (sLetX ι sp (ι 2 0) v) (sWet (ι 3)) wk (53 - wk) 0 0) → gX K none 6 0 0 jX11_till 51 [some (vR 0), some (vI v), some (vI (wr v 0 2000)), some (vI (nI mm)), some (vI (nI (wk + k)))] [] 0 0 ι ρ Λ (fun r2 a b c => r2 = (some (vI (rs (wr v 0 2000) (sTill (sLetX ι sp (ι 2 0) v) (sWet (ι 3)) wk (53 - wk) 0 0)))) ∧ a = (rsM (wr v 0 2000) 1 ι ι) ∧ b = ρ ∧ c = Λ) := by
        intro n
        induction n with
        | zero =>
          intro k mm hk hm he
          refine x_iload DX11_till_51 rfl ?_
          refine x_bipush 52 DX11_till_53 (by decide) ?_
          refine x_icmp_ge 108 DX11_till_55 (by decide) (fun c_55 => ?_) (fun c_55 => False.elim (c_55 (by rw [show (52 : Int32) = nI 52 from rfl]; exact nI_le (by omega) (by omega))))
          refine x_bipush (-9) DX11_till_108 (by decide) ?_
          exact x_ireturn DX11_till_110 rfl ⟨by rw [rs, if_pos (by assumption), ← he]; rfl, by rw [rsM, if_pos (by assumption)], rfl, rfl⟩
        | succ n ih =>
          intro k mm hk hm he
          have hw1 := sWet_le ht (show wk + k < 52 by omega)
          obtain ⟨m2, hm2, em2⟩ := m_add hm (by omega) hw1
          rw [sTill, if_pos (show wk + k < 52 by omega), em2] at he
          refine x_iload DX11_till_51 rfl ?_
          refine x_bipush 52 DX11_till_53 (by decide) ?_
          refine x_icmp_ge 108 DX11_till_55 (by decide) (fun c_55 => False.elim (by rw [show (52 : Int32) = nI 52 from rfl, nI_le1 (by omega) (by omega)] at c_55; omega)) (fun c_55 => ?_)
          refine x_iload_n 3 DX11_till_58 rfl rfl ?_
          refine x_aload_n 0 DX11_till_59 rfl rfl ?_
          refine x_getr 1 (some 2) DX11_till_60 (Or.inr F11_16) rfl rfl (hF.1 0 1 2 rfl) ?_
          refine x_iload DX11_till_63 rfl ?_
          have g := x_wetOf K (nI (wk + k)) ι ρ Λ hF (fun k h => (ht k h).1) (gIn_nI (by omega) (by omega))
          rw [nI_cl1 (show wk + k < 1000000 by omega)] at g
          refine x_Ve (ci := 8) (av := [vI (nI (wk + k))]) (rest := [vI (nI mm)]) (st' := [vI (sWet (ι 3) (wk + k)), vI (nI mm)]) 0 0 DX11_till_65 L11_110 rfl rfl rfl rfl rfl ⟨nle rfl, nle rfl, nle rfl⟩ ⟨rfl, nle rfl⟩ ⟨rfl, nle rfl⟩ (g) rfl ?_
          refine x_iadd DX11_till_68 ?_
          rw [em2]
          refine x_istore_n 3 (lv' := [some (vR 0), some (vI v), some (vI (wr v 0 2000)), some (vI (nI m2)), some (vI (nI (wk + k)))]) DX11_till_69 rfl ⟨nlt rfl, nlt rfl⟩ rfl ?_
          refine x_aload_n 0 DX11_till_70 rfl rfl ?_
          refine x_getr 4 (some 9) DX11_till_71 (Or.inr F11_37) rfl rfl (hF.1 0 4 9 rfl) ?_
          refine x_iload_n 1 DX11_till_74 rfl rfl ?_
          refine x_aload_n 0 DX11_till_75 rfl rfl ?_
          refine x_getr 1 (some 2) DX11_till_76 (Or.inr F11_16) rfl rfl (hF.1 0 1 2 rfl) ?_
          refine x_geti (v := (ι 2 0)) 0 DX11_till_79 (Or.inl F11_94) rfl rfl rfl ?_
          refine x_iload_n 3 DX11_till_82 rfl rfl ?_
          refine x_Ve (ci := 9) (av := [vI v, vI (ι 2 0), vI (nI m2)]) (rest := []) (st' := [vI (sLetX ι sp (ι 2 0) v (nI m2))]) 0 0 DX11_till_83 L11_232 rfl rfl rfl rfl rfl ⟨nle rfl, nle rfl, nle rfl⟩ ⟨rfl, nle rfl⟩ ⟨rfl, nle rfl⟩ (x_lets K v (ι 2 0) (nI m2) ι ρ Λ hF sp hSp hSr (hSle m2 (by omega))) rfl ?_
          refine x_if_ne 102 DX11_till_86 (by decide) (fun c_86 => ?_) (fun c_86 => ?_)
          · refine x_iinc ((nI (wk + k)) + 1) (lv' := [some (vR 0), some (vI v), some (vI (wr v 0 2000)), some (vI (nI m2)), some (vI ((nI (wk + k)) + 1))]) DX11_till_102 rfl rfl (nlt rfl) rfl ?_
            refine x_goto 51 DX11_till_105 (by decide) ?_
            refine x_lv (lv' := [some (vR 0), some (vI v), some (vI (wr v 0 2000)), some (vI (nI m2)), some (vI (nI (wk + (k + 1))))]) (lvS (lvS (lvS (lvS (lvI (by rw [nI_1]; rfl) rfl))))) ?_
            exact ih (k + 1) m2 (by omega) hm2 (by rw [if_neg (by assumption)] at he; exact he)
          · refine x_iload DX11_till_89 rfl ?_
            refine x_aload_n 0 DX11_till_91 rfl rfl ?_
            refine x_getr 1 (some 2) DX11_till_92 (Or.inr F11_16) rfl rfl (hF.1 0 1 2 rfl) ?_
            refine x_geti (v := (nI wk)) 1 DX11_till_95 (Or.inl F11_104) rfl rfl hW ?_
            refine x_isub DX11_till_98 ?_
            refine x_iconst 1 DX11_till_99 (by decide) ?_
            refine x_iadd DX11_till_100 ?_
            exact x_ireturn DX11_till_101 rfl ⟨by rw [rs, if_pos (by assumption), ← he, if_pos (by assumption)]; rw [pk_sub (by omega), nI_1, show wk + k - wk = k by omega], by rw [rsM, if_pos (by assumption)], rfl, rfl⟩
      refine x_lv (lv' := [some (vR 0), some (vI v), some (vI (wr v 0 2000)), some (vI (nI 0)), some (vI (nI (wk + 0)))]) (lvS (lvS (lvS (lvI nI_0.symm (lvS rfl))))) ?_
      refine loop (52 - wk) 0 0 (by omega) (by omega) ?_
      have e1 : (sTill (sLetX ι sp (ι 2 0) v) (sWet (ι 3)) wk (53 - wk) 0 0) = (sTill (sLetX ι sp (ι 2 0) v) (sWet (ι 3)) wk (52 - wk) (0 + 1) (if wk + 0 < 52 then 0 + sWet (ι 3) (wk + 0) else 0)) := by rw [show 53 - wk = (52 - wk) + 1 by omega, sTill, if_neg (by assumption)]
      rw [e1, nI_0]
    · refine x_iconst 0 DX11_till_38 (by decide) ?_
      exact x_ireturn DX11_till_39 rfl ⟨by rw [rs, if_pos (by assumption), show 53 - wk = (52 - wk) + 1 by omega, sTill, if_pos (by assumption)]; rfl, by rw [rsM, if_pos (by assumption)], rfl, rfl⟩
  · refine x_aload_n 0 DX11_till_13 rfl rfl ?_
    refine x_iload_n 2 DX11_till_14 rfl rfl ?_
    refine x_Ve (ci := 11) (av := [vI (wr v 0 2000)]) (rest := []) (st' := [vI (wr v 0 2000)]) 0 0 DX11_till_15 L11_72 rfl rfl rfl rfl rfl ⟨nle rfl, nle rfl, nle rfl⟩ ⟨rfl, nle rfl⟩ ⟨rfl, nle rfl⟩ (x_refuse K (wr v 0 2000) ι ρ Λ hF (wr_in _ _ _ (by assumption))) rfl ?_
    refine x_nmι (fun ι15 e_ι15 => ?_)
    exact x_ireturn DX11_till_18 rfl ⟨by grind [rs], by grind [rsM], rfl, rfl⟩
