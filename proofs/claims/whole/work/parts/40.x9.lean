/-! the class, IX: hanging, cutting -/
theorem x_put (K : gK) (p year : Int32) (ι : gIm) (ρ : gRm) (Λ : gLm) (hF : gFix ρ Λ) (r : Nat) (hr : r < 200) (hp : 0 ≤ p ∧ p < 6) : gCe K 2 0 0 jX9_put [vR 9, vR (200 + r), vI p, vI year] ι ρ Λ none (xHangI ι r p.toNatClampNeg p year) (up2 ρ 10 p.toNatClampNeg (some (200 + r))) Λ := by
  refine gC_of (by decide) (nle rfl) ?_
  refine x_iload_n 2 DX9_put_0 rfl rfl ?_
  refine x_Se (av := [vI p]) (rest := []) (st' := [vI (b2i (0 ≤ p ∧ p < 6))]) 0 0 DX9_put_1 L9_27 rfl rfl ⟨nle rfl, nle rfl, nle rfl⟩ ⟨rfl, nle rfl⟩ ⟨rfl, nle rfl⟩ (x_isPlace K p ι ρ Λ) rfl ?_
  refine x_if_ne_b 8 DX9_put_4 (by decide) (fun c_4 => ?_) (fun c_4 => False.elim (c_4 hp))
  refine x_aload_n 0 DX9_put_8 rfl rfl ?_
  refine x_getr 0 (some 10) DX9_put_9 (Or.inr F9_11) rfl rfl (hF.1 9 0 10 rfl) ?_
  refine x_iload_n 2 DX9_put_12 rfl rfl ?_
  refine x_aload_n 1 DX9_put_13 rfl rfl ?_
  refine x_aast (t := 4) (ci := 6) p.toNatClampNeg rfl DX9_put_14 rfl ⟨by decide, by decide⟩ (gIn.fx hF (c := 10) (n := 6) rfl (gIn_of 6 hp rfl)) (shp_rope (by omega)) rfl (fun ρ14 e_ρ14 => ?_)
  have hF15 := gFix_up hF (gst_arr (by decide)) e_ρ14
  refine x_aload_n 0 DX9_put_15 rfl rfl ?_
  refine x_getr 1 (some 11) DX9_put_16 (Or.inr F9_17) rfl rfl (hF15.1 9 1 11 rfl) ?_
  refine x_iload_n 2 DX9_put_19 rfl rfl ?_
  refine x_bipush 50 DX9_put_20 (by decide) ?_
  refine x_iast p.toNatClampNeg rfl DX9_put_22 rfl (gIn.fx hF15 (c := 11) (n := 6) rfl (gIn_of 6 hp rfl)) (fun ι22 e_ι22 => ?_)
  refine x_aload_n 0 DX9_put_23 rfl rfl ?_
  refine x_getr 2 (some 12) DX9_put_24 (Or.inr F9_21) rfl rfl (hF15.1 9 2 12 rfl) ?_
  refine x_iload_n 2 DX9_put_27 rfl rfl ?_
  refine x_iconst 0 DX9_put_28 (by decide) ?_
  refine x_iast p.toNatClampNeg rfl DX9_put_29 rfl (gIn.fx hF15 (c := 12) (n := 6) rfl (gIn_of 6 hp rfl)) (fun ι29 e_ι29 => ?_)
  refine x_aload_n 0 DX9_put_30 rfl rfl ?_
  refine x_getr 3 (some 13) DX9_put_31 (Or.inr F9_24) rfl rfl (hF15.1 9 3 13 rfl) ?_
  refine x_iload_n 2 DX9_put_34 rfl rfl ?_
  refine x_iload_n 3 DX9_put_35 rfl rfl ?_
  refine x_iast p.toNatClampNeg rfl DX9_put_36 rfl (gIn.fx hF15 (c := 13) (n := 6) rfl (gIn_of 6 hp rfl)) (fun ι36 e_ι36 => ?_)
  refine x_aload_n 1 DX9_put_37 rfl rfl ?_
  refine x_iconst 1 DX9_put_38 (by decide) ?_
  refine x_puti 7 DX9_put_39 F9_31 (shp_rope (by omega)) (Or.inr ⟨rfl, (Or.inr rfl)⟩) rfl (fun ι39 e_ι39 => ?_)
  refine x_aload_n 1 DX9_put_42 rfl rfl ?_
  refine x_iload_n 2 DX9_put_43 rfl rfl ?_
  refine x_puti 8 DX9_put_44 F9_35 (shp_rope (by omega)) (Or.inl rfl) rfl (fun ι44 e_ι44 => ?_)
  exact x_return DX9_put_47 rfl ⟨rfl, by subst_vars; rfl, by subst_vars; rfl, rfl⟩
theorem x_takeN (K : gK) (p : Int32) (ι : gIm) (ρ : gRm) (Λ : gLm) (hF : gFix ρ Λ) (sp : Nat → Option Nat) (hSp : ∀ p, p < 6 → ρ 10 p = (sp p).map (200 + ·)) (hSr : ∀ p r, p < 6 → sp p = some r → r < 200) (hp : 0 ≤ p ∧ p < 6) (hs : sp p.toNatClampNeg = none) : gCe K 3 0 0 jX9_takeFrom [vR 9, vI p] ι ρ Λ (some vN) ι ρ Λ := by
  refine gC_of (by decide) (nle rfl) ?_
  refine x_aload_n 0 DX9_takeFrom_0 rfl rfl ?_
  refine x_iload_n 1 DX9_takeFrom_1 rfl rfl ?_
  refine x_Ve (ci := 9) (av := [vI p]) (rest := []) (st' := [vN]) 0 0 DX9_takeFrom_2 L9_39 rfl rfl rfl rfl rfl ⟨nle rfl, nle rfl, nle rfl⟩ ⟨rfl, nle rfl⟩ ⟨rfl, nle rfl⟩ (x_ropeAtN K p ι ρ Λ hF hp (by rw [show (p : Int32).toNatClampNeg = p.toNatClampNeg from rfl, hSp _ (gIn_of (n := 6) 6 hp rfl).2, hs]; rfl)) rfl ?_
  refine x_astore_n 2 (lv' := [some (vR 9), some (vI p), some (vN)]) DX9_takeFrom_5 rfl ⟨nlt rfl, nlt rfl⟩ rfl ?_
  refine x_aload_n 2 DX9_takeFrom_6 rfl rfl ?_
  refine x_ifnull 23 DX9_takeFrom_7 (by decide) (fun _ => ?_) (fun _ h => by cases h)
  refine x_aload_n 2 DX9_takeFrom_23 rfl rfl ?_
  exact x_areturn DX9_takeFrom_24 ⟨_, rfl, by first | exact Or.inl ⟨_, rfl⟩ | exact Or.inr ⟨_, rfl⟩⟩ ⟨rfl, rfl, rfl, rfl⟩
theorem x_takeS (K : gK) (p : Int32) (ι : gIm) (ρ : gRm) (Λ : gLm) (hF : gFix ρ Λ) (sp : Nat → Option Nat) (hSp : ∀ p, p < 6 → ρ 10 p = (sp p).map (200 + ·)) (hSr : ∀ p r, p < 6 → sp p = some r → r < 200) (hp : 0 ≤ p ∧ p < 6) (r : Nat) (hr : r < 200) (hs : sp p.toNatClampNeg = some r) : gCe K 3 0 0 jX9_takeFrom [vR 9, vI p] ι ρ Λ (some (vR (200 + r))) (up2 ι (200 + r) 8 (-9)) (up2 ρ 10 p.toNatClampNeg none) Λ := by
  refine gC_of (by decide) (nle rfl) ?_
  refine x_aload_n 0 DX9_takeFrom_0 rfl rfl ?_
  refine x_iload_n 1 DX9_takeFrom_1 rfl rfl ?_
  refine x_Ve (ci := 9) (av := [vI p]) (rest := []) (st' := [vR (200 + r)]) 0 0 DX9_takeFrom_2 L9_39 rfl rfl rfl rfl rfl ⟨nle rfl, nle rfl, nle rfl⟩ ⟨rfl, nle rfl⟩ ⟨rfl, nle rfl⟩ (x_ropeAtS K p ι ρ Λ hF hp r (by rw [show (p : Int32).toNatClampNeg = p.toNatClampNeg from rfl, hSp _ (gIn_of (n := 6) 6 hp rfl).2, hs]; rfl)) rfl ?_
  refine x_astore_n 2 (lv' := [some (vR 9), some (vI p), some (vR (200 + r))]) DX9_takeFrom_5 rfl ⟨nlt rfl, nlt rfl⟩ rfl ?_
  refine x_aload_n 2 DX9_takeFrom_6 rfl rfl ?_
  refine x_ifnull 23 DX9_takeFrom_7 (by decide) (fun h => by cases h) (fun _ _ => ?_)
  refine x_aload_n 0 DX9_takeFrom_10 rfl rfl ?_
  refine x_getr 0 (some 10) DX9_takeFrom_11 (Or.inr F9_11) rfl rfl (hF.1 9 0 10 rfl) ?_
  refine x_iload_n 1 DX9_takeFrom_14 rfl rfl ?_
  refine x_null DX9_takeFrom_15 ?_
  refine x_aastN (t := 4) p.toNatClampNeg rfl DX9_takeFrom_16 rfl ⟨by decide, by decide⟩ (gIn.fx hF (c := 10) (n := 6) rfl (gIn_of 6 hp rfl)) (fun ρ16 e_ρ16 => ?_)
  refine x_aload_n 2 DX9_takeFrom_17 rfl rfl ?_
  refine x_bipush (-9) DX9_takeFrom_18 (by decide) ?_
  refine x_puti 8 DX9_takeFrom_20 F9_35 (shp_rope (by omega)) (Or.inl rfl) rfl (fun ι20 e_ι20 => ?_)
  refine x_aload_n 2 DX9_takeFrom_23 rfl rfl ?_
  exact x_areturn DX9_takeFrom_24 ⟨_, rfl, by first | exact Or.inl ⟨_, rfl⟩ | exact Or.inr ⟨_, rfl⟩⟩ ⟨rfl, by subst_vars; rfl, by subst_vars; rfl, rfl⟩
theorem x_tighten (K : gK) (p v : Int32) (ι : gIm) (ρ : gRm) (Λ : gLm) (hF : gFix ρ Λ) (hp : 0 ≤ p ∧ p < 6) : gCe K 2 0 0 jX9_tighten [vR 9, vI p, vI v] ι ρ Λ (some (vI (ι 11 p.toNatClampNeg))) (up2 ι 11 p.toNatClampNeg v) ρ Λ := by
  refine gC_of (by decide) (nle rfl) ?_
  refine x_iload_n 1 DX9_tighten_0 rfl rfl ?_
  refine x_Se (av := [vI p]) (rest := []) (st' := [vI (b2i (0 ≤ p ∧ p < 6))]) 0 0 DX9_tighten_1 L9_27 rfl rfl ⟨nle rfl, nle rfl, nle rfl⟩ ⟨rfl, nle rfl⟩ ⟨rfl, nle rfl⟩ (x_isPlace K p ι ρ Λ) rfl ?_
  refine x_if_ne_b 9 DX9_tighten_4 (by decide) (fun c_4 => ?_) (fun c_4 => False.elim (c_4 hp))
  refine x_aload_n 0 DX9_tighten_9 rfl rfl ?_
  refine x_getr 1 (some 11) DX9_tighten_10 (Or.inr F9_17) rfl rfl (hF.1 9 1 11 rfl) ?_
  refine x_iload_n 1 DX9_tighten_13 rfl rfl ?_
  refine x_iald (v := (ι 11 p.toNatClampNeg)) p.toNatClampNeg rfl DX9_tighten_14 rfl (gIn.fx hF (c := 11) (n := 6) rfl (gIn_of 6 hp rfl)) rfl ?_
  refine x_istore_n 3 (lv' := [some (vR 9), some (vI p), some (vI v), some (vI (ι 11 p.toNatClampNeg))]) DX9_tighten_15 rfl ⟨nlt rfl, nlt rfl⟩ rfl ?_
  refine x_aload_n 0 DX9_tighten_16 rfl rfl ?_
  refine x_getr 1 (some 11) DX9_tighten_17 (Or.inr F9_17) rfl rfl (hF.1 9 1 11 rfl) ?_
  refine x_iload_n 1 DX9_tighten_20 rfl rfl ?_
  refine x_iload_n 2 DX9_tighten_21 rfl rfl ?_
  refine x_iast p.toNatClampNeg rfl DX9_tighten_22 rfl (gIn.fx hF (c := 11) (n := 6) rfl (gIn_of 6 hp rfl)) (fun ι22 e_ι22 => ?_)
  refine x_iload_n 3 DX9_tighten_23 rfl rfl ?_
  exact x_ireturn DX9_tighten_24 rfl ⟨rfl, by assumption, rfl, rfl⟩
theorem x_soak (K : gK) (m : Int32) (ι : gIm) (ρ : gRm) (Λ : gLm) (hF : gFix ρ Λ) : gCe K 1 0 0 jX9_soak [vR 9, vI m] ι ρ Λ none (xSoak ι m 6) ρ Λ := by
  refine gC_of (by decide) (nle rfl) ?_
  refine x_iconst 0 DX9_soak_0 (by decide) ?_
  refine x_istore_n 2 (lv' := [some (vR 9), some (vI m), some (vI 0)]) DX9_soak_1 rfl ⟨nlt rfl, nlt rfl⟩ rfl ?_
  refine x_lv (lv' := [some (vR 9), some (vI m), some (vI (nI 0))]) (lvS (lvS (lvI nI_0.symm rfl))) ?_
  refine lpn (W := fun i => ∀ z, z = xSoak ι m i → gX K none 1 0 0 jX9_soak 2 [some (vR 9), some (vI m), some (vI (nI i))] [] 0 0 z ρ Λ _) 6 (fun i hi ihi z hz => ?_) 0 (by omega) ?_ _ (by rw [xSoak, fil_0, va_up_id])
  · refine x_iload_n 2 DX9_soak_2 rfl rfl ?_
    refine x_bipush 6 DX9_soak_3 (by decide) ?_
    refine x_icmp_ge 24 DX9_soak_5 (by decide) (fun c_5 => False.elim (by rw [show (6 : Int32) = nI 6 from rfl, nI_le1 (by omega) (by omega)] at c_5; omega)) (fun c_5 => ?_)
    refine x_aload_n 0 DX9_soak_8 rfl rfl ?_
    refine x_getr 2 (some 12) DX9_soak_9 (Or.inr F9_21) rfl rfl (hF.1 9 2 12 rfl) ?_
    refine x_iload_n 2 DX9_soak_12 rfl rfl ?_
    refine x_dup2 DX9_soak_13 ?_
    refine x_iald (v := (ι 12 i)) i (nI_cl1 (by omega)) DX9_soak_14 rfl (gIn.fx hF (c := 12) (n := 6) rfl (gIn_nI (by omega) (by omega))) (by rw [hz]; unfold xSoak; rw [va_up_self]; unfold fil; rw [if_neg (by omega)]) ?_
    refine x_iload_n 1 DX9_soak_15 rfl rfl ?_
    refine x_iadd DX9_soak_16 ?_
    refine x_iast i (nI_cl1 (by omega)) DX9_soak_17 rfl (gIn.fx hF (c := 12) (n := 6) rfl (gIn_nI (by omega) (by omega))) (fun ι17 e_ι17 => ?_)
    refine x_iinc ((nI i) + 1) (lv' := [some (vR 9), some (vI m), some (vI ((nI i) + 1))]) DX9_soak_18 rfl rfl (nlt rfl) rfl ?_
    refine x_goto 2 DX9_soak_21 (by decide) ?_
    refine x_lv (lv' := [some (vR 9), some (vI m), some (vI (nI (i + 1)))]) (lvS (lvS (lvI (nI_1 i) rfl))) ?_
    exact ihi _ (by rw [e_ι17, hz]; exact up2_fil ι 12 i (fun p => ι 12 p + m) (ι 12))
  · intro z hz
    refine x_iload_n 2 DX9_soak_2 rfl rfl ?_
    refine x_bipush 6 DX9_soak_3 (by decide) ?_
    refine x_icmp_ge 24 DX9_soak_5 (by decide) (fun c_5 => ?_) (fun c_5 => False.elim (c_5 (by rw [show (6 : Int32) = nI 6 from rfl]; exact nI_le (by omega) (by omega))))
    exact x_return DX9_soak_24 rfl ⟨rfl, hz, rfl, rfl⟩
theorem x_hungSet (K : gK)  (ι : gIm) (ρ : gRm) (Λ : gLm) (hF : gFix ρ Λ) (sp : Nat → Option Nat) (hSp : ∀ p, p < 6 → ρ 10 p = (sp p).map (200 + ·)) (hSr : ∀ p r, p < 6 → sp p = some r → r < 200) : gCe K 1 0 0 jX9_hungSet [vR 9] ι ρ Λ (some (vI (sHung sp))) ι ρ Λ := by
  refine gC_of (by decide) (nle rfl) ?_
  refine x_iconst 0 DX9_hungSet_0 (by decide) ?_
  refine x_istore_n 1 (lv' := [some (vR 9), some (vI 0), none]) DX9_hungSet_1 rfl ⟨nlt rfl, nlt rfl⟩ rfl ?_
  refine x_iconst 0 DX9_hungSet_2 (by decide) ?_
  refine x_istore_n 2 (lv' := [some (vR 9), some (vI 0), some (vI 0)]) DX9_hungSet_3 rfl ⟨nlt rfl, nlt rfl⟩ rfl ?_
  refine x_lv (lv' := [some (vR 9), some (vI 0), some (vI (nI 0))]) (lvS (lvS (lvI nI_0.symm rfl))) ?_
  refine lp0 (W := fun i a => gX K none 1 0 0 jX9_hungSet 4 [some (vR 9), some (vI a), some (vI (nI i))] [] 0 0 ι ρ Λ _) (fun i a => a ||| (if sp i = none then 0 else (1 : Int32) <<< (nI i &&& 31))) 6 (fun i a hi ih => ?_) 0 0 (by omega) ?_
  · refine x_iload_n 2 DX9_hungSet_4 rfl rfl ?_
    refine x_bipush 6 DX9_hungSet_5 (by decide) ?_
    refine x_icmp_ge 35 DX9_hungSet_7 (by decide) (fun c_7 => False.elim (by rw [show (6 : Int32) = nI 6 from rfl, nI_le1 (by omega) (by omega)] at c_7; omega)) (fun c_7 => ?_)
    rcases hs : sp i with _ | r
    · refine x_iload_n 1 DX9_hungSet_10 rfl rfl ?_
      refine x_aload_n 0 DX9_hungSet_11 rfl rfl ?_
      refine x_getr 0 (some 10) DX9_hungSet_12 (Or.inr F9_11) rfl rfl (hF.1 9 0 10 rfl) ?_
      refine x_iload_n 2 DX9_hungSet_15 rfl rfl ?_
      refine x_aald (t := 4) i none (nI_cl1 (by omega)) DX9_hungSet_16 rfl ⟨by decide, by decide⟩ (gIn.fx hF (c := 10) (n := 6) rfl (gIn_nI (by omega) (by omega))) (by rw [hSp i (by omega), hs]; rfl) ?_
      refine x_ifnonnull 24 DX9_hungSet_17 (by decide) (fun _ h => by cases h) (fun _ => ?_)
      refine x_iconst 0 DX9_hungSet_20 (by decide) ?_
      refine x_goto 27 DX9_hungSet_21 (by decide) ?_
      refine x_ior DX9_hungSet_27 ?_
      refine x_istore_n 1 (lv' := [some (vR 9), some (vI (a ||| 0)), some (vI (nI i))]) DX9_hungSet_28 rfl ⟨nlt rfl, nlt rfl⟩ rfl ?_
      refine x_iinc ((nI i) + 1) (lv' := [some (vR 9), some (vI (a ||| 0)), some (vI ((nI i) + 1))]) DX9_hungSet_29 rfl rfl (nlt rfl) rfl ?_
      refine x_goto 4 DX9_hungSet_32 (by decide) ?_
      refine x_lv (lv' := [some (vR 9), some (vI (a ||| (if sp i = none then 0 else (1 : Int32) <<< (nI i &&& 31)))), some (vI (nI (i + 1)))]) (lvS (lvI (by grind []) (lvI (nI_1 i) rfl))) ?_
      exact ih
    · refine x_iload_n 1 DX9_hungSet_10 rfl rfl ?_
      refine x_aload_n 0 DX9_hungSet_11 rfl rfl ?_
      refine x_getr 0 (some 10) DX9_hungSet_12 (Or.inr F9_11) rfl rfl (hF.1 9 0 10 rfl) ?_
      refine x_iload_n 2 DX9_hungSet_15 rfl rfl ?_
      refine x_aald (t := 4) i (some (200 + r)) (nI_cl1 (by omega)) DX9_hungSet_16 rfl ⟨by decide, by decide⟩ (gIn.fx hF (c := 10) (n := 6) rfl (gIn_nI (by omega) (by omega))) (by rw [hSp i (by omega), hs]; rfl) ?_
      refine x_ifnonnull 24 DX9_hungSet_17 (by decide) (fun _ _ => ?_) (fun h => by cases h)
      refine x_iconst 1 DX9_hungSet_24 (by decide) ?_
      refine x_iload_n 2 DX9_hungSet_25 rfl rfl ?_
      refine x_ishl DX9_hungSet_26 ?_
      refine x_ior DX9_hungSet_27 ?_
      refine x_istore_n 1 (lv' := [some (vR 9), some (vI (a ||| (1 <<< ((nI i) &&& 31)))), some (vI (nI i))]) DX9_hungSet_28 rfl ⟨nlt rfl, nlt rfl⟩ rfl ?_
      refine x_iinc ((nI i) + 1) (lv' := [some (vR 9), some (vI (a ||| (1 <<< ((nI i) &&& 31)))), some (vI ((nI i) + 1))]) DX9_hungSet_29 rfl rfl (nlt rfl) rfl ?_
      refine x_goto 4 DX9_hungSet_32 (by decide) ?_
      refine x_lv (lv' := [some (vR 9), some (vI (a ||| (if sp i = none then 0 else (1 : Int32) <<< (nI i &&& 31)))), some (vI (nI (i + 1)))]) (lvS (lvI (by grind []) (lvI (nI_1 i) rfl))) ?_
      exact ih
  · show gX K none 1 0 0 jX9_hungSet 4 [some (vR 9), some (vI (sHung sp)), some (vI (nI 6))] [] 0 0 ι ρ Λ _
    refine x_iload_n 2 DX9_hungSet_4 rfl rfl ?_
    refine x_bipush 6 DX9_hungSet_5 (by decide) ?_
    refine x_icmp_ge 35 DX9_hungSet_7 (by decide) (fun c_7 => ?_) (fun c_7 => False.elim (c_7 (by rw [show (6 : Int32) = nI 6 from rfl]; exact nI_le (by omega) (by omega))))
    refine x_iload_n 1 DX9_hungSet_35 rfl rfl ?_
    exact x_ireturn DX9_hungSet_36 rfl ⟨rfl, rfl, rfl, rfl⟩
theorem x_hang (K : gK) (r p : Int32) (ι : gIm) (ρ : gRm) (Λ : gLm) (hF : gFix ρ Λ) (nr : Nat) (hR : ι 7 1 = nI nr) (hr0 : nr ≤ 200) (hRl : ∀ r, r < nr → ρ 8 r = some (200 + r)) (sp : Nat → Option Nat) (hSp : ∀ p, p < 6 → ρ 10 p = (sp p).map (200 + ·)) (hSr : ∀ p r, p < 6 → sp p = some r → r < 200) : gCe K 3 0 0 jX11_hang [vR 0, vI r, vI p] ι ρ Λ (some (vI (rs (cHang r p (nI nr) (ι (200 + r.toNatClampNeg) 1) (xFree (ι (200 + r.toNatClampNeg) 6) (ι (200 + r.toNatClampNeg) 7) (ι (200 + r.toNatClampNeg) 3) (ι 2 0)) (hgi (sp p.toNatClampNeg))) 1))) (rsM (cHang r p (nI nr) (ι (200 + r.toNatClampNeg) 1) (xFree (ι (200 + r.toNatClampNeg) 6) (ι (200 + r.toNatClampNeg) 7) (ι (200 + r.toNatClampNeg) 3) (ι 2 0)) (hgi (sp p.toNatClampNeg))) 1 ι (xHangI ι r.toNatClampNeg p.toNatClampNeg p (ι 2 0))) (sel (cHang r p (nI nr) (ι (200 + r.toNatClampNeg) 1) (xFree (ι (200 + r.toNatClampNeg) 6) (ι (200 + r.toNatClampNeg) 7) (ι (200 + r.toNatClampNeg) 3) (ι 2 0)) (hgi (sp p.toNatClampNeg))) (up2 ρ 10 p.toNatClampNeg (some (200 + r.toNatClampNeg))) ρ) Λ := by
  refine gC_of (by decide) (nle rfl) ?_
  by_cases f_r : 0 ≤ r ∧ r < nI nr
  · have b_r := nn_i f_r (by omega)
    refine x_aload_n 0 DX11_hang_0 rfl rfl ?_
    by_cases hp : 0 ≤ p ∧ p < 6
    · refine x_getr 3 (some 7) DX11_hang_1 (Or.inr F11_30) rfl rfl (hF.1 0 3 7 rfl) ?_
      refine x_iload_n 1 DX11_hang_4 rfl rfl ?_
      refine x_Ve (ci := 7) (av := [vI r]) (rest := []) (st' := [vR (200 + r.toNatClampNeg)]) 0 0 DX11_hang_5 L11_191 rfl rfl rfl rfl rfl ⟨nle rfl, nle rfl, nle rfl⟩ ⟨rfl, nle rfl⟩ ⟨rfl, nle rfl⟩ (x_findR K r ι ρ Λ hF nr hR hr0 hRl f_r) rfl ?_
      refine x_astore_n 3 (lv' := [some (vR 0), some (vI r), some (vI p), some (vR (200 + r.toNatClampNeg))]) DX11_hang_8 rfl ⟨nlt rfl, nlt rfl⟩ rfl ?_
      refine x_aload_n 3 DX11_hang_9 rfl rfl ?_
      refine x_ifnull 20 DX11_hang_10 (by decide) (fun h => by cases h) (fun _ _ => ?_)
      refine x_iload_n 2 DX11_hang_13 rfl rfl ?_
      refine x_Se (av := [vI p]) (rest := []) (st' := [vI (b2i (0 ≤ p ∧ p < 6))]) 0 0 DX11_hang_14 L11_217 rfl rfl ⟨nle rfl, nle rfl, nle rfl⟩ ⟨rfl, nle rfl⟩ ⟨rfl, nle rfl⟩ (x_isPlace K p ι ρ Λ) rfl ?_
      refine x_if_ne_b 26 DX11_hang_17 (by decide) (fun c_17 => ?_) (fun c_17 => False.elim (by grind))
      refine x_aload_n 3 DX11_hang_26 rfl rfl ?_
      refine x_geti (v := (ι (200 + r.toNatClampNeg) 1)) 1 DX11_hang_27 (Or.inr F11_193) (shp_rope (by omega)) rfl rfl ?_
      refine x_iconst 2 DX11_hang_30 (by decide) ?_
      refine x_icmp_eq 41 DX11_hang_31 (by decide) (fun c_31 => ?_) (fun c_31 => ?_)
      · rcases hs : sp p.toNatClampNeg with _ | q
        · refine x_aload_n 3 DX11_hang_41 rfl rfl ?_
          refine x_aload_n 0 DX11_hang_42 rfl rfl ?_
          refine x_getr 1 (some 2) DX11_hang_43 (Or.inr F11_16) rfl rfl (hF.1 0 1 2 rfl) ?_
          refine x_geti (v := (ι 2 0)) 0 DX11_hang_46 (Or.inl F11_94) rfl rfl rfl ?_
          refine x_Ve (ci := 6) (av := [vI (ι 2 0)]) (rest := []) (st' := [vI (xFree (ι (200 + r.toNatClampNeg) 6) (ι (200 + r.toNatClampNeg) 7) (ι (200 + r.toNatClampNeg) 3) (ι 2 0))]) 0 0 DX11_hang_49 L11_198 rfl rfl (shp_rope (by omega)) rfl rfl ⟨nle rfl, nle rfl, nle rfl⟩ ⟨rfl, nle rfl⟩ ⟨rfl, nle rfl⟩ (x_isFree K (ι 2 0) ι ρ Λ r.toNatClampNeg (by omega)) rfl ?_
          refine x_if_eq 66 DX11_hang_52 (by decide) (fun c_52 => ?_) (fun c_52 => ?_)
          · refine x_aload_n 0 DX11_hang_66 rfl rfl ?_
            refine x_bipush (-3) DX11_hang_67 (by decide) ?_
            refine x_Ve (ci := 11) (av := [vI (-3)]) (rest := []) (st' := [vI (-3)]) 0 0 DX11_hang_69 L11_72 rfl rfl rfl rfl rfl ⟨nle rfl, nle rfl, nle rfl⟩ ⟨rfl, nle rfl⟩ ⟨rfl, nle rfl⟩ (x_refuse K (-3) ι ρ Λ hF ⟨by decide, by decide⟩) rfl ?_
            refine x_nmι (fun ι69 e_ι69 => ?_)
            exact x_ireturn DX11_hang_72 rfl ⟨by have hgv : hgi none = -9 := rfl; grind [cHang, rs, xFree], by have hgv : hgi none = -9 := rfl; grind [cHang, rsM, xFree], by have hgv : hgi none = -9 := rfl; rw [sel, if_neg (by grind [cHang, xFree])], rfl⟩
          · refine x_aload_n 0 DX11_hang_55 rfl rfl ?_
            refine x_getr 4 (some 9) DX11_hang_56 (Or.inr F11_37) rfl rfl (hF.1 0 4 9 rfl) ?_
            refine x_iload_n 2 DX11_hang_59 rfl rfl ?_
            refine x_Ve (ci := 9) (av := [vI p]) (rest := []) (st' := [vN]) 0 0 DX11_hang_60 L11_117 rfl rfl rfl rfl rfl ⟨nle rfl, nle rfl, nle rfl⟩ ⟨rfl, nle rfl⟩ ⟨rfl, nle rfl⟩ (x_ropeAtN K p ι ρ Λ hF hp (by rw [show (p : Int32).toNatClampNeg = p.toNatClampNeg from rfl, hSp _ (gIn_of (n := 6) 6 hp rfl).2, hs]; rfl)) rfl ?_
            refine x_ifnull 73 DX11_hang_63 (by decide) (fun _ => ?_) (fun _ h => by cases h)
            refine x_aload_n 0 DX11_hang_73 rfl rfl ?_
            refine x_getr 4 (some 9) DX11_hang_74 (Or.inr F11_37) rfl rfl (hF.1 0 4 9 rfl) ?_
            refine x_aload_n 3 DX11_hang_77 rfl rfl ?_
            refine x_iload_n 2 DX11_hang_78 rfl rfl ?_
            refine x_aload_n 0 DX11_hang_79 rfl rfl ?_
            refine x_getr 1 (some 2) DX11_hang_80 (Or.inr F11_16) rfl rfl (hF.1 0 1 2 rfl) ?_
            refine x_geti (v := (ι 2 0)) 0 DX11_hang_83 (Or.inl F11_94) rfl rfl rfl ?_
            refine x_Ve (ci := 9) (av := [vR (200 + r.toNatClampNeg), vI p, vI (ι 2 0)]) (rest := []) (st' := []) 0 0 DX11_hang_86 L11_220 rfl rfl rfl rfl rfl ⟨nle rfl, nle rfl, nle rfl⟩ ⟨rfl, nle rfl⟩ ⟨rfl, nle rfl⟩ (x_put K p (ι 2 0) ι ρ Λ hF r.toNatClampNeg (by omega) hp) rfl ?_
            refine x_nmι (fun ι86 e_ι86 => ?_)
            refine x_nmρ (fun ρ86 e_ρ86 => ?_)
            refine x_iconst 1 DX11_hang_89 (by decide) ?_
            exact x_ireturn DX11_hang_90 rfl ⟨by have hgv : hgi none = -9 := rfl; rw [rs, if_pos (by grind [cHang, xFree])], by have hgv : hgi none = -9 := rfl; rw [rsM, if_pos (by grind [cHang, xFree])]; assumption, by have hgv : hgi none = -9 := rfl; rw [sel, if_pos (by grind [cHang, xFree])]; assumption, rfl⟩
        · have hq := hSr _ _ (gIn_of (n := 6) 6 hp rfl).2 hs
          refine x_aload_n 3 DX11_hang_41 rfl rfl ?_
          refine x_aload_n 0 DX11_hang_42 rfl rfl ?_
          refine x_getr 1 (some 2) DX11_hang_43 (Or.inr F11_16) rfl rfl (hF.1 0 1 2 rfl) ?_
          refine x_geti (v := (ι 2 0)) 0 DX11_hang_46 (Or.inl F11_94) rfl rfl rfl ?_
          refine x_Ve (ci := 6) (av := [vI (ι 2 0)]) (rest := []) (st' := [vI (xFree (ι (200 + r.toNatClampNeg) 6) (ι (200 + r.toNatClampNeg) 7) (ι (200 + r.toNatClampNeg) 3) (ι 2 0))]) 0 0 DX11_hang_49 L11_198 rfl rfl (shp_rope (by omega)) rfl rfl ⟨nle rfl, nle rfl, nle rfl⟩ ⟨rfl, nle rfl⟩ ⟨rfl, nle rfl⟩ (x_isFree K (ι 2 0) ι ρ Λ r.toNatClampNeg (by omega)) rfl ?_
          refine x_if_eq 66 DX11_hang_52 (by decide) (fun c_52 => ?_) (fun c_52 => ?_)
          · refine x_aload_n 0 DX11_hang_66 rfl rfl ?_
            refine x_bipush (-3) DX11_hang_67 (by decide) ?_
            refine x_Ve (ci := 11) (av := [vI (-3)]) (rest := []) (st' := [vI (-3)]) 0 0 DX11_hang_69 L11_72 rfl rfl rfl rfl rfl ⟨nle rfl, nle rfl, nle rfl⟩ ⟨rfl, nle rfl⟩ ⟨rfl, nle rfl⟩ (x_refuse K (-3) ι ρ Λ hF ⟨by decide, by decide⟩) rfl ?_
            refine x_nmι (fun ι69 e_ι69 => ?_)
            exact x_ireturn DX11_hang_72 rfl ⟨by have hgv : hgi (some q) = nI q := rfl; have hq0 := nI_pos (show q < 2 ^ 31 by omega); grind [cHang, rs, xFree], by have hgv : hgi (some q) = nI q := rfl; have hq0 := nI_pos (show q < 2 ^ 31 by omega); grind [cHang, rsM, xFree], by have hgv : hgi (some q) = nI q := rfl; have hq0 := nI_pos (show q < 2 ^ 31 by omega); rw [sel, if_neg (by grind [cHang, xFree])], rfl⟩
          · refine x_aload_n 0 DX11_hang_55 rfl rfl ?_
            refine x_getr 4 (some 9) DX11_hang_56 (Or.inr F11_37) rfl rfl (hF.1 0 4 9 rfl) ?_
            refine x_iload_n 2 DX11_hang_59 rfl rfl ?_
            refine x_Ve (ci := 9) (av := [vI p]) (rest := []) (st' := [vR (200 + q)]) 0 0 DX11_hang_60 L11_117 rfl rfl rfl rfl rfl ⟨nle rfl, nle rfl, nle rfl⟩ ⟨rfl, nle rfl⟩ ⟨rfl, nle rfl⟩ (x_ropeAtS K p ι ρ Λ hF hp q (by rw [show (p : Int32).toNatClampNeg = p.toNatClampNeg from rfl, hSp _ (gIn_of (n := 6) 6 hp rfl).2, hs]; rfl)) rfl ?_
            refine x_ifnull 73 DX11_hang_63 (by decide) (fun h => by cases h) (fun _ _ => ?_)
            refine x_aload_n 0 DX11_hang_66 rfl rfl ?_
            refine x_bipush (-3) DX11_hang_67 (by decide) ?_
            refine x_Ve (ci := 11) (av := [vI (-3)]) (rest := []) (st' := [vI (-3)]) 0 0 DX11_hang_69 L11_72 rfl rfl rfl rfl rfl ⟨nle rfl, nle rfl, nle rfl⟩ ⟨rfl, nle rfl⟩ ⟨rfl, nle rfl⟩ (x_refuse K (-3) ι ρ Λ hF ⟨by decide, by decide⟩) rfl ?_
            refine x_nmι (fun ι69 e_ι69 => ?_)
            exact x_ireturn DX11_hang_72 rfl ⟨by have hgv : hgi (some q) = nI q := rfl; have hq0 := nI_pos (show q < 2 ^ 31 by omega); grind [cHang, rs, xFree], by have hgv : hgi (some q) = nI q := rfl; have hq0 := nI_pos (show q < 2 ^ 31 by omega); grind [cHang, rsM, xFree], by have hgv : hgi (some q) = nI q := rfl; have hq0 := nI_pos (show q < 2 ^ 31 by omega); rw [sel, if_neg (by grind [cHang, xFree])], rfl⟩
      · refine x_aload_n 0 DX11_hang_34 rfl rfl ?_
        refine x_bipush (-2) DX11_hang_35 (by decide) ?_
        refine x_Ve (ci := 11) (av := [vI (-2)]) (rest := []) (st' := [vI (-2)]) 0 0 DX11_hang_37 L11_72 rfl rfl rfl rfl rfl ⟨nle rfl, nle rfl, nle rfl⟩ ⟨rfl, nle rfl⟩ ⟨rfl, nle rfl⟩ (x_refuse K (-2) ι ρ Λ hF ⟨by decide, by decide⟩) rfl ?_
        refine x_nmι (fun ι37 e_ι37 => ?_)
        exact x_ireturn DX11_hang_40 rfl ⟨by grind [cHang, rs, xFree], by grind [cHang, rsM, xFree], by rw [sel, if_neg (by grind [cHang, xFree])], rfl⟩
    · refine x_getr 3 (some 7) DX11_hang_1 (Or.inr F11_30) rfl rfl (hF.1 0 3 7 rfl) ?_
      refine x_iload_n 1 DX11_hang_4 rfl rfl ?_
      refine x_Ve (ci := 7) (av := [vI r]) (rest := []) (st' := [vR (200 + r.toNatClampNeg)]) 0 0 DX11_hang_5 L11_191 rfl rfl rfl rfl rfl ⟨nle rfl, nle rfl, nle rfl⟩ ⟨rfl, nle rfl⟩ ⟨rfl, nle rfl⟩ (x_findR K r ι ρ Λ hF nr hR hr0 hRl f_r) rfl ?_
      refine x_astore_n 3 (lv' := [some (vR 0), some (vI r), some (vI p), some (vR (200 + r.toNatClampNeg))]) DX11_hang_8 rfl ⟨nlt rfl, nlt rfl⟩ rfl ?_
      refine x_aload_n 3 DX11_hang_9 rfl rfl ?_
      refine x_ifnull 20 DX11_hang_10 (by decide) (fun h => by cases h) (fun _ _ => ?_)
      refine x_iload_n 2 DX11_hang_13 rfl rfl ?_
      refine x_Se (av := [vI p]) (rest := []) (st' := [vI (b2i (0 ≤ p ∧ p < 6))]) 0 0 DX11_hang_14 L11_217 rfl rfl ⟨nle rfl, nle rfl, nle rfl⟩ ⟨rfl, nle rfl⟩ ⟨rfl, nle rfl⟩ (x_isPlace K p ι ρ Λ) rfl ?_
      refine x_if_ne_b 26 DX11_hang_17 (by decide) (fun c_17 => False.elim (by grind)) (fun c_17 => ?_)
      refine x_aload_n 0 DX11_hang_20 rfl rfl ?_
      refine x_iconst (-1) DX11_hang_21 (by decide) ?_
      refine x_Ve (ci := 11) (av := [vI (-1)]) (rest := []) (st' := [vI (-1)]) 0 0 DX11_hang_22 L11_72 rfl rfl rfl rfl rfl ⟨nle rfl, nle rfl, nle rfl⟩ ⟨rfl, nle rfl⟩ ⟨rfl, nle rfl⟩ (x_refuse K (-1) ι ρ Λ hF ⟨by decide, by decide⟩) rfl ?_
      refine x_nmι (fun ι22 e_ι22 => ?_)
      exact x_ireturn DX11_hang_25 rfl ⟨by grind [cHang, rs, xFree], by grind [cHang, rsM, xFree], by rw [sel, if_neg (by grind [cHang, xFree])], rfl⟩
  · refine x_aload_n 0 DX11_hang_0 rfl rfl ?_
    by_cases hp : 0 ≤ p ∧ p < 6
    · refine x_getr 3 (some 7) DX11_hang_1 (Or.inr F11_30) rfl rfl (hF.1 0 3 7 rfl) ?_
      refine x_iload_n 1 DX11_hang_4 rfl rfl ?_
      refine x_Ve (ci := 7) (av := [vI r]) (rest := []) (st' := [vN]) 0 0 DX11_hang_5 L11_191 rfl rfl rfl rfl rfl ⟨nle rfl, nle rfl, nle rfl⟩ ⟨rfl, nle rfl⟩ ⟨rfl, nle rfl⟩ (x_findRN K r ι ρ Λ hF nr hR hr0 f_r) rfl ?_
      refine x_astore_n 3 (lv' := [some (vR 0), some (vI r), some (vI p), some (vN)]) DX11_hang_8 rfl ⟨nlt rfl, nlt rfl⟩ rfl ?_
      refine x_aload_n 3 DX11_hang_9 rfl rfl ?_
      refine x_ifnull 20 DX11_hang_10 (by decide) (fun _ => ?_) (fun _ h => by cases h)
      refine x_aload_n 0 DX11_hang_20 rfl rfl ?_
      refine x_iconst (-1) DX11_hang_21 (by decide) ?_
      refine x_Ve (ci := 11) (av := [vI (-1)]) (rest := []) (st' := [vI (-1)]) 0 0 DX11_hang_22 L11_72 rfl rfl rfl rfl rfl ⟨nle rfl, nle rfl, nle rfl⟩ ⟨rfl, nle rfl⟩ ⟨rfl, nle rfl⟩ (x_refuse K (-1) ι ρ Λ hF ⟨by decide, by decide⟩) rfl ?_
      refine x_nmι (fun ι22 e_ι22 => ?_)
      exact x_ireturn DX11_hang_25 rfl ⟨by grind [cHang, rs, xFree], by grind [cHang, rsM, xFree], by rw [sel, if_neg (by grind [cHang, xFree])], rfl⟩
    · refine x_getr 3 (some 7) DX11_hang_1 (Or.inr F11_30) rfl rfl (hF.1 0 3 7 rfl) ?_
      refine x_iload_n 1 DX11_hang_4 rfl rfl ?_
      refine x_Ve (ci := 7) (av := [vI r]) (rest := []) (st' := [vN]) 0 0 DX11_hang_5 L11_191 rfl rfl rfl rfl rfl ⟨nle rfl, nle rfl, nle rfl⟩ ⟨rfl, nle rfl⟩ ⟨rfl, nle rfl⟩ (x_findRN K r ι ρ Λ hF nr hR hr0 f_r) rfl ?_
      refine x_astore_n 3 (lv' := [some (vR 0), some (vI r), some (vI p), some (vN)]) DX11_hang_8 rfl ⟨nlt rfl, nlt rfl⟩ rfl ?_
      refine x_aload_n 3 DX11_hang_9 rfl rfl ?_
      refine x_ifnull 20 DX11_hang_10 (by decide) (fun _ => ?_) (fun _ h => by cases h)
      refine x_aload_n 0 DX11_hang_20 rfl rfl ?_
      refine x_iconst (-1) DX11_hang_21 (by decide) ?_
      refine x_Ve (ci := 11) (av := [vI (-1)]) (rest := []) (st' := [vI (-1)]) 0 0 DX11_hang_22 L11_72 rfl rfl rfl rfl rfl ⟨nle rfl, nle rfl, nle rfl⟩ ⟨rfl, nle rfl⟩ ⟨rfl, nle rfl⟩ (x_refuse K (-1) ι ρ Λ hF ⟨by decide, by decide⟩) rfl ?_
      refine x_nmι (fun ι22 e_ι22 => ?_)
      exact x_ireturn DX11_hang_25 rfl ⟨by grind [cHang, rs, xFree], by grind [cHang, rsM, xFree], by rw [sel, if_neg (by grind [cHang, xFree])], rfl⟩
theorem x_cut (K : gK) (p : Int32) (ι : gIm) (ρ : gRm) (Λ : gLm) (hF : gFix ρ Λ) (sp : Nat → Option Nat) (hSp : ∀ p, p < 6 → ρ 10 p = (sp p).map (200 + ·)) (hSr : ∀ p r, p < 6 → sp p = some r → r < 200) (hSn : ∀ p r, p < 6 → sp p = some r → ι (200 + r) 0 = nI r) : gCe K 4 0 0 jX11_cut [vR 0, vI p] ι ρ Λ (some (vI (rs (cCut p (hgi (sp p.toNatClampNeg))) (hgi (sp p.toNatClampNeg))))) (rsM (cCut p (hgi (sp p.toNatClampNeg))) 1 ι (xGoneI ι (sp p.toNatClampNeg))) (sel (cCut p (hgi (sp p.toNatClampNeg))) (up2 ρ 10 p.toNatClampNeg none) ρ) Λ := by
  refine gC_of (by decide) (nle rfl) ?_
  by_cases hp : 0 ≤ p ∧ p < 6
  · refine x_iload_n 1 DX11_cut_0 rfl rfl ?_
    refine x_Se (av := [vI p]) (rest := []) (st' := [vI (b2i (0 ≤ p ∧ p < 6))]) 0 0 DX11_cut_1 L11_217 rfl rfl ⟨nle rfl, nle rfl, nle rfl⟩ ⟨rfl, nle rfl⟩ ⟨rfl, nle rfl⟩ (x_isPlace K p ι ρ Λ) rfl ?_
    refine x_if_ne_b 13 DX11_cut_4 (by decide) (fun c_4 => ?_) (fun c_4 => False.elim (by grind))
    rcases hs : sp p.toNatClampNeg with _ | q
    · refine x_aload_n 0 DX11_cut_13 rfl rfl ?_
      refine x_getr 4 (some 9) DX11_cut_14 (Or.inr F11_37) rfl rfl (hF.1 0 4 9 rfl) ?_
      refine x_iload_n 1 DX11_cut_17 rfl rfl ?_
      refine x_Ve (ci := 9) (av := [vI p]) (rest := []) (st' := [vN]) 0 0 DX11_cut_18 L11_124 rfl rfl rfl rfl rfl ⟨nle rfl, nle rfl, nle rfl⟩ ⟨rfl, nle rfl⟩ ⟨rfl, nle rfl⟩ (x_takeN K p ι ρ Λ hF sp hSp hSr hp hs) rfl ?_
      refine x_astore_n 2 (lv' := [some (vR 0), some (vI p), some (vN)]) DX11_cut_21 rfl ⟨nlt rfl, nlt rfl⟩ rfl ?_
      refine x_aload_n 2 DX11_cut_22 rfl rfl ?_
      refine x_ifnonnull 35 DX11_cut_23 (by decide) (fun _ h => by cases h) (fun _ => ?_)
      refine x_aload_n 0 DX11_cut_26 rfl rfl ?_
      refine x_bipush (-3) DX11_cut_27 (by decide) ?_
      refine x_Ve (ci := 11) (av := [vI (-3)]) (rest := []) (st' := [vI (-3)]) 0 0 DX11_cut_29 L11_72 rfl rfl rfl rfl rfl ⟨nle rfl, nle rfl, nle rfl⟩ ⟨rfl, nle rfl⟩ ⟨rfl, nle rfl⟩ (x_refuse K (-3) ι ρ Λ hF ⟨by decide, by decide⟩) rfl ?_
      refine x_nmι (fun ι29 e_ι29 => ?_)
      refine x_goto 39 DX11_cut_32 (by decide) ?_
      exact x_ireturn DX11_cut_39 rfl ⟨by have hgv : hgi none = -9 := rfl; grind [cCut, rs], by have hgv : hgi none = -9 := rfl; grind [cCut, rsM], by have hgv : hgi none = -9 := rfl; rw [sel, if_neg (by grind [cCut])], rfl⟩
    · have hq := hSr _ _ (gIn_of (n := 6) 6 hp rfl).2 hs
      refine x_aload_n 0 DX11_cut_13 rfl rfl ?_
      refine x_getr 4 (some 9) DX11_cut_14 (Or.inr F11_37) rfl rfl (hF.1 0 4 9 rfl) ?_
      refine x_iload_n 1 DX11_cut_17 rfl rfl ?_
      refine x_Ve (ci := 9) (av := [vI p]) (rest := []) (st' := [vR (200 + q)]) 0 0 DX11_cut_18 L11_124 rfl rfl rfl rfl rfl ⟨nle rfl, nle rfl, nle rfl⟩ ⟨rfl, nle rfl⟩ ⟨rfl, nle rfl⟩ (x_takeS K p ι ρ Λ hF sp hSp hSr hp q (by omega) hs) rfl ?_
      refine x_nmι (fun ι18 e_ι18 => ?_)
      refine x_nmρ (fun ρ18 e_ρ18 => ?_)
      refine x_astore_n 2 (lv' := [some (vR 0), some (vI p), some (vR (200 + q))]) DX11_cut_21 rfl ⟨nlt rfl, nlt rfl⟩ rfl ?_
      refine x_aload_n 2 DX11_cut_22 rfl rfl ?_
      refine x_ifnonnull 35 DX11_cut_23 (by decide) (fun _ _ => ?_) (fun h => by cases h)
      refine x_aload_n 2 DX11_cut_35 rfl rfl ?_
      refine x_geti (v := (nI q)) 0 DX11_cut_36 (Or.inr F11_223) (shp_rope (by omega)) rfl (by rw [e_ι18, up2_row, va_up_ne _ _ (by decide)]; exact hSn _ _ (gIn_of (n := 6) 6 hp rfl).2 hs) ?_
      exact x_ireturn DX11_cut_39 rfl ⟨by have hgv : hgi (some q) = nI q := rfl; have hq0 := nI_pos (show q < 2 ^ 31 by omega); rw [rs, if_pos (by grind [cCut])]; grind, by have hgv : hgi (some q) = nI q := rfl; have hq0 := nI_pos (show q < 2 ^ 31 by omega); rw [rsM, if_pos (by grind [cCut])]; assumption, by have hgv : hgi (some q) = nI q := rfl; have hq0 := nI_pos (show q < 2 ^ 31 by omega); rw [sel, if_pos (by grind [cCut])]; assumption, rfl⟩
  · refine x_iload_n 1 DX11_cut_0 rfl rfl ?_
    refine x_Se (av := [vI p]) (rest := []) (st' := [vI (b2i (0 ≤ p ∧ p < 6))]) 0 0 DX11_cut_1 L11_217 rfl rfl ⟨nle rfl, nle rfl, nle rfl⟩ ⟨rfl, nle rfl⟩ ⟨rfl, nle rfl⟩ (x_isPlace K p ι ρ Λ) rfl ?_
    refine x_if_ne_b 13 DX11_cut_4 (by decide) (fun c_4 => False.elim (by grind)) (fun c_4 => ?_)
    refine x_aload_n 0 DX11_cut_7 rfl rfl ?_
    refine x_iconst (-1) DX11_cut_8 (by decide) ?_
    refine x_Ve (ci := 11) (av := [vI (-1)]) (rest := []) (st' := [vI (-1)]) 0 0 DX11_cut_9 L11_72 rfl rfl rfl rfl rfl ⟨nle rfl, nle rfl, nle rfl⟩ ⟨rfl, nle rfl⟩ ⟨rfl, nle rfl⟩ (x_refuse K (-1) ι ρ Λ hF ⟨by decide, by decide⟩) rfl ?_
    refine x_nmι (fun ι9 e_ι9 => ?_)
    exact x_ireturn DX11_cut_12 rfl ⟨by grind [cCut, rs], by grind [cCut, rsM], by rw [sel, if_neg (by grind [cCut])], rfl⟩
theorem x_tension (K : gK) (p v : Int32) (ι : gIm) (ρ : gRm) (Λ : gLm) (hF : gFix ρ Λ) (sp : Nat → Option Nat) (hSp : ∀ p, p < 6 → ρ 10 p = (sp p).map (200 + ·)) (hSr : ∀ p r, p < 6 → sp p = some r → r < 200) : gCe K 3 0 0 jX11_tension [vR 0, vI p, vI v] ι ρ Λ (some (vI (rs (cTens p v (hgi (sp p.toNatClampNeg))) (ι 11 p.toNatClampNeg)))) (rsM (cTens p v (hgi (sp p.toNatClampNeg))) 1 ι (up2 ι 11 p.toNatClampNeg v)) ρ Λ := by
  refine gC_of (by decide) (nle rfl) ?_
  by_cases hp : 0 ≤ p ∧ p < 6
  · refine x_iload_n 1 DX11_tension_0 rfl rfl ?_
    refine x_Se (av := [vI p]) (rest := []) (st' := [vI (b2i (0 ≤ p ∧ p < 6))]) 0 0 DX11_tension_1 L11_217 rfl rfl ⟨nle rfl, nle rfl, nle rfl⟩ ⟨rfl, nle rfl⟩ ⟨rfl, nle rfl⟩ (x_isPlace K p ι ρ Λ) rfl ?_
    refine x_if_ne_b 13 DX11_tension_4 (by decide) (fun c_4 => ?_) (fun c_4 => False.elim (by grind))
    rcases hs : sp p.toNatClampNeg with _ | q
    · refine x_aload_n 0 DX11_tension_13 rfl rfl ?_
      refine x_getr 4 (some 9) DX11_tension_14 (Or.inr F11_37) rfl rfl (hF.1 0 4 9 rfl) ?_
      refine x_iload_n 1 DX11_tension_17 rfl rfl ?_
      refine x_Ve (ci := 9) (av := [vI p]) (rest := []) (st' := [vN]) 0 0 DX11_tension_18 L11_117 rfl rfl rfl rfl rfl ⟨nle rfl, nle rfl, nle rfl⟩ ⟨rfl, nle rfl⟩ ⟨rfl, nle rfl⟩ (x_ropeAtN K p ι ρ Λ hF hp (by rw [show (p : Int32).toNatClampNeg = p.toNatClampNeg from rfl, hSp _ (gIn_of (n := 6) 6 hp rfl).2, hs]; rfl)) rfl ?_
      refine x_ifnonnull 31 DX11_tension_21 (by decide) (fun _ h => by cases h) (fun _ => ?_)
      refine x_aload_n 0 DX11_tension_24 rfl rfl ?_
      refine x_bipush (-3) DX11_tension_25 (by decide) ?_
      refine x_Ve (ci := 11) (av := [vI (-3)]) (rest := []) (st' := [vI (-3)]) 0 0 DX11_tension_27 L11_72 rfl rfl rfl rfl rfl ⟨nle rfl, nle rfl, nle rfl⟩ ⟨rfl, nle rfl⟩ ⟨rfl, nle rfl⟩ (x_refuse K (-3) ι ρ Λ hF ⟨by decide, by decide⟩) rfl ?_
      refine x_nmι (fun ι27 e_ι27 => ?_)
      exact x_ireturn DX11_tension_30 rfl ⟨by have hgv : hgi none = -9 := rfl; grind [cTens, rs], by have hgv : hgi none = -9 := rfl; grind [cTens, rsM], rfl, rfl⟩
    · have hq := hSr _ _ (gIn_of (n := 6) 6 hp rfl).2 hs
      refine x_aload_n 0 DX11_tension_13 rfl rfl ?_
      refine x_getr 4 (some 9) DX11_tension_14 (Or.inr F11_37) rfl rfl (hF.1 0 4 9 rfl) ?_
      refine x_iload_n 1 DX11_tension_17 rfl rfl ?_
      refine x_Ve (ci := 9) (av := [vI p]) (rest := []) (st' := [vR (200 + q)]) 0 0 DX11_tension_18 L11_117 rfl rfl rfl rfl rfl ⟨nle rfl, nle rfl, nle rfl⟩ ⟨rfl, nle rfl⟩ ⟨rfl, nle rfl⟩ (x_ropeAtS K p ι ρ Λ hF hp q (by rw [show (p : Int32).toNatClampNeg = p.toNatClampNeg from rfl, hSp _ (gIn_of (n := 6) 6 hp rfl).2, hs]; rfl)) rfl ?_
      refine x_ifnonnull 31 DX11_tension_21 (by decide) (fun _ _ => ?_) (fun h => by cases h)
      refine x_iload_n 2 DX11_tension_31 rfl rfl ?_
      refine x_iconst 0 DX11_tension_32 (by decide) ?_
      refine x_bipush 99 DX11_tension_33 (by decide) ?_
      refine x_Se (av := [vI v, vI 0, vI 99]) (rest := []) (st' := [vI (wr v 0 99)]) 0 0 DX11_tension_35 L11_83 rfl rfl ⟨nle rfl, nle rfl, nle rfl⟩ ⟨rfl, nle rfl⟩ ⟨rfl, nle rfl⟩ (x_misfit K v 0 99 ι ρ Λ) rfl ?_
      refine x_istore_n 3 (lv' := [some (vR 0), some (vI p), some (vI v), some (vI (wr v 0 99))]) DX11_tension_38 rfl ⟨nlt rfl, nlt rfl⟩ rfl ?_
      refine x_iload_n 3 DX11_tension_39 rfl rfl ?_
      refine x_if_eq 51 DX11_tension_40 (by decide) (fun c_40 => ?_) (fun c_40 => ?_)
      · refine x_aload_n 0 DX11_tension_51 rfl rfl ?_
        refine x_getr 4 (some 9) DX11_tension_52 (Or.inr F11_37) rfl rfl (hF.1 0 4 9 rfl) ?_
        refine x_iload_n 1 DX11_tension_55 rfl rfl ?_
        refine x_iload_n 2 DX11_tension_56 rfl rfl ?_
        refine x_Ve (ci := 9) (av := [vI p, vI v]) (rest := []) (st' := [vI (ι 11 p.toNatClampNeg)]) 0 0 DX11_tension_57 L11_226 rfl rfl rfl rfl rfl ⟨nle rfl, nle rfl, nle rfl⟩ ⟨rfl, nle rfl⟩ ⟨rfl, nle rfl⟩ (x_tighten K p v ι ρ Λ hF hp) rfl ?_
        refine x_nmι (fun ι57 e_ι57 => ?_)
        exact x_ireturn DX11_tension_60 rfl ⟨by have hgv : hgi (some q) = nI q := rfl; have hq0 := nI_pos (show q < 2 ^ 31 by omega); grind [cTens, rs], by have hgv : hgi (some q) = nI q := rfl; have hq0 := nI_pos (show q < 2 ^ 31 by omega); grind [cTens, rsM], rfl, rfl⟩
      · refine x_aload_n 0 DX11_tension_43 rfl rfl ?_
        refine x_iload_n 3 DX11_tension_44 rfl rfl ?_
        refine x_Ve (ci := 11) (av := [vI (wr v 0 99)]) (rest := []) (st' := [vI (wr v 0 99)]) 0 0 DX11_tension_45 L11_72 rfl rfl rfl rfl rfl ⟨nle rfl, nle rfl, nle rfl⟩ ⟨rfl, nle rfl⟩ ⟨rfl, nle rfl⟩ (x_refuse K (wr v 0 99) ι ρ Λ hF (wr_in _ _ _ (by assumption))) rfl ?_
        refine x_nmι (fun ι45 e_ι45 => ?_)
        refine x_goto 60 DX11_tension_48 (by decide) ?_
        exact x_ireturn DX11_tension_60 rfl ⟨by have hgv : hgi (some q) = nI q := rfl; have hq0 := nI_pos (show q < 2 ^ 31 by omega); grind [cTens, rs], by have hgv : hgi (some q) = nI q := rfl; have hq0 := nI_pos (show q < 2 ^ 31 by omega); grind [cTens, rsM], rfl, rfl⟩
  · refine x_iload_n 1 DX11_tension_0 rfl rfl ?_
    refine x_Se (av := [vI p]) (rest := []) (st' := [vI (b2i (0 ≤ p ∧ p < 6))]) 0 0 DX11_tension_1 L11_217 rfl rfl ⟨nle rfl, nle rfl, nle rfl⟩ ⟨rfl, nle rfl⟩ ⟨rfl, nle rfl⟩ (x_isPlace K p ι ρ Λ) rfl ?_
    refine x_if_ne_b 13 DX11_tension_4 (by decide) (fun c_4 => False.elim (by grind)) (fun c_4 => ?_)
    refine x_aload_n 0 DX11_tension_7 rfl rfl ?_
    refine x_iconst (-1) DX11_tension_8 (by decide) ?_
    refine x_Ve (ci := 11) (av := [vI (-1)]) (rest := []) (st' := [vI (-1)]) 0 0 DX11_tension_9 L11_72 rfl rfl rfl rfl rfl ⟨nle rfl, nle rfl, nle rfl⟩ ⟨rfl, nle rfl⟩ ⟨rfl, nle rfl⟩ (x_refuse K (-1) ι ρ Λ hF ⟨by decide, by decide⟩) rfl ?_
    refine x_nmι (fun ι9 e_ι9 => ?_)
    exact x_ireturn DX11_tension_12 rfl ⟨by grind [cTens, rs], by grind [cTens, rsM], rfl, rfl⟩
