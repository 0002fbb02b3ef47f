/-! the class, VIII: strengths -/
theorem x_isPlace (K : gK) (p : Int32) (ι : gIm) (ρ : gRm) (Λ : gLm)  : gCe K 1 0 0 jX9_isPlace [vI p] ι ρ Λ (some (vI (b2i (0 ≤ p ∧ p < 6)))) ι ρ Λ := by
  refine gC_of (by decide) (nle rfl) ?_
  refine x_iload_n 0 DX9_isPlace_0 rfl rfl ?_
  refine x_if_lt 14 DX9_isPlace_1 (by decide) (fun c_1 => ?_) (fun c_1 => ?_)
  · refine x_iconst 0 DX9_isPlace_14 (by decide) ?_
    exact x_zreturn DX9_isPlace_15 rfl (Or.inl rfl) ⟨by grind [b2i], rfl, rfl, rfl⟩
  · refine x_iload_n 0 DX9_isPlace_4 rfl rfl ?_
    refine x_bipush 6 DX9_isPlace_5 (by decide) ?_
    refine x_icmp_ge 14 DX9_isPlace_7 (by decide) (fun c_7 => ?_) (fun c_7 => ?_)
    · refine x_iconst 0 DX9_isPlace_14 (by decide) ?_
      exact x_zreturn DX9_isPlace_15 rfl (Or.inl rfl) ⟨by grind [b2i], rfl, rfl, rfl⟩
    · refine x_iconst 1 DX9_isPlace_10 (by decide) ?_
      refine x_goto 15 DX9_isPlace_11 (by decide) ?_
      exact x_zreturn DX9_isPlace_15 rfl (Or.inr rfl) ⟨by grind [b2i], rfl, rfl, rfl⟩
theorem x_ropeAtS (K : gK) (p : Int32) (ι : gIm) (ρ : gRm) (Λ : gLm) (hF : gFix ρ Λ) (hp : 0 ≤ p ∧ p < 6) (r : Nat) (h : ρ 10 p.toNatClampNeg = some (200 + r)) : gCe K 2 0 0 jX9_ropeAt [vR 9, vI p] ι ρ Λ (some (vR (200 + r))) ι ρ Λ := by
  refine gC_of (by decide) (nle rfl) ?_
  refine x_iload_n 1 DX9_ropeAt_0 rfl rfl ?_
  refine x_Se (av := [vI p]) (rest := []) (st' := [vI (b2i (0 ≤ p ∧ p < 6))]) 0 0 DX9_ropeAt_1 L9_27 rfl rfl ⟨nle rfl, nle rfl, nle rfl⟩ ⟨rfl, nle rfl⟩ ⟨rfl, nle rfl⟩ (x_isPlace K p ι ρ Λ) rfl ?_
  refine x_if_eq_b 16 DX9_ropeAt_4 (by decide) (fun c_4 => False.elim (c_4 hp)) (fun c_4 => ?_)
  refine x_aload_n 0 DX9_ropeAt_7 rfl rfl ?_
  refine x_getr 0 (some 10) DX9_ropeAt_8 (Or.inr F9_11) rfl rfl (hF.1 9 0 10 rfl) ?_
  refine x_iload_n 1 DX9_ropeAt_11 rfl rfl ?_
  refine x_aald (t := 4) p.toNatClampNeg (some (200 + r)) rfl DX9_ropeAt_12 rfl ⟨by decide, by decide⟩ (gIn.fx hF (c := 10) (n := 6) rfl (gIn_of 6 hp rfl)) h ?_
  refine x_goto 17 DX9_ropeAt_13 (by decide) ?_
  exact x_areturn DX9_ropeAt_17 ⟨_, rfl, by first | exact Or.inl ⟨_, rfl⟩ | exact Or.inr ⟨_, rfl⟩⟩ ⟨rfl, rfl, rfl, rfl⟩
theorem x_ropeAtN (K : gK) (p : Int32) (ι : gIm) (ρ : gRm) (Λ : gLm) (hF : gFix ρ Λ) (hp : 0 ≤ p ∧ p < 6) (h : ρ 10 p.toNatClampNeg = none) : gCe K 2 0 0 jX9_ropeAt [vR 9, vI p] ι ρ Λ (some vN) ι ρ Λ := by
  refine gC_of (by decide) (nle rfl) ?_
  refine x_iload_n 1 DX9_ropeAt_0 rfl rfl ?_
  refine x_Se (av := [vI p]) (rest := []) (st' := [vI (b2i (0 ≤ p ∧ p < 6))]) 0 0 DX9_ropeAt_1 L9_27 rfl rfl ⟨nle rfl, nle rfl, nle rfl⟩ ⟨rfl, nle rfl⟩ ⟨rfl, nle rfl⟩ (x_isPlace K p ι ρ Λ) rfl ?_
  refine x_if_eq_b 16 DX9_ropeAt_4 (by decide) (fun c_4 => False.elim (c_4 hp)) (fun c_4 => ?_)
  refine x_aload_n 0 DX9_ropeAt_7 rfl rfl ?_
  refine x_getr 0 (some 10) DX9_ropeAt_8 (Or.inr F9_11) rfl rfl (hF.1 9 0 10 rfl) ?_
  refine x_iload_n 1 DX9_ropeAt_11 rfl rfl ?_
  refine x_aald (t := 4) p.toNatClampNeg none rfl DX9_ropeAt_12 rfl ⟨by decide, by decide⟩ (gIn.fx hF (c := 10) (n := 6) rfl (gIn_of 6 hp rfl)) h ?_
  refine x_goto 17 DX9_ropeAt_13 (by decide) ?_
  exact x_areturn DX9_ropeAt_17 ⟨_, rfl, by first | exact Or.inl ⟨_, rfl⟩ | exact Or.inr ⟨_, rfl⟩⟩ ⟨rfl, rfl, rfl, rfl⟩
theorem x_strengthAt (K : gK) (p year m : Int32) (ι : gIm) (ρ : gRm) (Λ : gLm) (hF : gFix ρ Λ) (sp : Nat → Option Nat) (hSp : ∀ p, p < 6 → ρ 10 p = (sp p).map (200 + ·)) (hSr : ∀ p r, p < 6 → sp p = some r → r < 200) (hp : 0 ≤ p ∧ p < 6) : gCe K 3 0 0 jX9_strengthAt [vR 9, vI p, vI year, vI m] ι ρ Λ (some (vI (sStX ι sp year m p.toNatClampNeg))) ι ρ Λ := by
  refine gC_of (by decide) (nle rfl) ?_
  rcases hsr : sp p.toNatClampNeg with _ | r
  · refine x_aload_n 0 DX9_strengthAt_0 rfl rfl ?_
    refine x_iload_n 1 DX9_strengthAt_1 rfl rfl ?_
    refine x_Ve (ci := 9) (av := [vI p]) (rest := []) (st' := [vN]) 0 0 DX9_strengthAt_2 L9_39 rfl rfl rfl rfl rfl ⟨nle rfl, nle rfl, nle rfl⟩ ⟨rfl, nle rfl⟩ ⟨rfl, nle rfl⟩ (x_ropeAtN K p ι ρ Λ hF hp (by rw [show (p : Int32).toNatClampNeg = p.toNatClampNeg from rfl, hSp _ (gIn_of (n := 6) 6 hp rfl).2, hsr]; rfl)) rfl ?_
    refine x_astore (lv' := [some (vR 9), some (vI p), some (vI year), some (vI m), some (vN), none]) DX9_strengthAt_5 ⟨nlt rfl, nlt rfl⟩ rfl ?_
    refine x_aload DX9_strengthAt_7 rfl ?_
    refine x_ifnonnull 14 DX9_strengthAt_9 (by decide) (fun _ h => by cases h) (fun _ => ?_)
    refine x_iconst 0 DX9_strengthAt_12 (by decide) ?_
    exact x_ireturn DX9_strengthAt_13 rfl ⟨by unfold sStX; rw [hsr], rfl, rfl, rfl⟩
  · have hbr := hSr _ _ (gIn_of (n := 6) 6 hp rfl).2 hsr
    refine x_aload_n 0 DX9_strengthAt_0 rfl rfl ?_
    refine x_iload_n 1 DX9_strengthAt_1 rfl rfl ?_
    refine x_Ve (ci := 9) (av := [vI p]) (rest := []) (st' := [vR (200 + r)]) 0 0 DX9_strengthAt_2 L9_39 rfl rfl rfl rfl rfl ⟨nle rfl, nle rfl, nle rfl⟩ ⟨rfl, nle rfl⟩ ⟨rfl, nle rfl⟩ (x_ropeAtS K p ι ρ Λ hF hp r (by rw [show (p : Int32).toNatClampNeg = p.toNatClampNeg from rfl, hSp _ (gIn_of (n := 6) 6 hp rfl).2, hsr]; rfl)) rfl ?_
    refine x_astore (lv' := [some (vR 9), some (vI p), some (vI year), some (vI m), some (vR (200 + r)), none]) DX9_strengthAt_5 ⟨nlt rfl, nlt rfl⟩ rfl ?_
    refine x_aload DX9_strengthAt_7 rfl ?_
    refine x_ifnonnull 14 DX9_strengthAt_9 (by decide) (fun _ _ => ?_) (fun h => by cases h)
    refine x_aload_n 0 DX9_strengthAt_14 rfl rfl ?_
    refine x_getr 2 (some 12) DX9_strengthAt_15 (Or.inr F9_21) rfl rfl (hF.1 9 2 12 rfl) ?_
    refine x_iload_n 1 DX9_strengthAt_18 rfl rfl ?_
    refine x_iald (v := (ι 12 p.toNatClampNeg)) p.toNatClampNeg rfl DX9_strengthAt_19 rfl (gIn.fx hF (c := 12) (n := 6) rfl (gIn_of 6 hp rfl)) rfl ?_
    refine x_iload_n 3 DX9_strengthAt_20 rfl rfl ?_
    refine x_iadd DX9_strengthAt_21 ?_
    refine x_iconst 3 DX9_strengthAt_22 (by decide) ?_
    refine x_idiv DX9_strengthAt_23 (by decide) ?_
    refine x_bipush 40 DX9_strengthAt_24 (by decide) ?_
    refine x_iload_n 2 DX9_strengthAt_26 rfl rfl ?_
    refine x_aload_n 0 DX9_strengthAt_27 rfl rfl ?_
    refine x_getr 3 (some 13) DX9_strengthAt_28 (Or.inr F9_24) rfl rfl (hF.1 9 3 13 rfl) ?_
    refine x_iload_n 1 DX9_strengthAt_31 rfl rfl ?_
    refine x_iald (v := (ι 13 p.toNatClampNeg)) p.toNatClampNeg rfl DX9_strengthAt_32 rfl (gIn.fx hF (c := 13) (n := 6) rfl (gIn_of 6 hp rfl)) rfl ?_
    refine x_isub DX9_strengthAt_33 ?_
    refine x_imul DX9_strengthAt_34 ?_
    refine x_iadd DX9_strengthAt_35 ?_
    refine x_istore (lv' := [some (vR 9), some (vI p), some (vI year), some (vI m), some (vR (200 + r)), some (vI ((((ι 12 p.toNatClampNeg) + m) / 3) + (40 * (year - (ι 13 p.toNatClampNeg)))))]) DX9_strengthAt_36 ⟨nlt rfl, nlt rfl⟩ rfl ?_
    refine x_iconst 0 DX9_strengthAt_38 (by decide) ?_
    refine x_aload DX9_strengthAt_39 rfl ?_
    refine x_geti (v := (ι (200 + r) 2)) 2 DX9_strengthAt_41 (Or.inr F9_43) (shp_rope (by omega)) rfl rfl ?_
    refine x_bipush 10 DX9_strengthAt_44 (by decide) ?_
    refine x_imul DX9_strengthAt_46 ?_
    refine x_iload DX9_strengthAt_47 rfl ?_
    refine x_isub DX9_strengthAt_49 ?_
    refine x_Se (av := [vI 0, vI (((ι (200 + r) 2) * 10) - ((((ι 12 p.toNatClampNeg) + m) / 3) + (40 * (year - (ι 13 p.toNatClampNeg)))))]) (rest := []) (st' := [vI (imax 0 (((ι (200 + r) 2) * 10) - ((((ι 12 p.toNatClampNeg) + m) / 3) + (40 * (year - (ι 13 p.toNatClampNeg))))))]) 0 0 DX9_strengthAt_50 L9_46 rfl rfl ⟨nle rfl, nle rfl, nle rfl⟩ ⟨rfl, nle rfl⟩ ⟨rfl, nle rfl⟩ (j_max K 0 (((ι (200 + r) 2) * 10) - ((((ι 12 p.toNatClampNeg) + m) / 3) + (40 * (year - (ι 13 p.toNatClampNeg))))) ι ρ Λ) rfl ?_
    exact x_ireturn DX9_strengthAt_53 rfl ⟨by unfold sStX; rw [hsr]; exact congrArg (fun z => some (vI z)) (vStg_eq _ _ _ _ _), rfl, rfl, rfl⟩
theorem x_bearing (K : gK) (year m : Int32) (ι : gIm) (ρ : gRm) (Λ : gLm) (hF : gFix ρ Λ) (sp : Nat → Option Nat) (hSp : ∀ p, p < 6 → ρ 10 p = (sp p).map (200 + ·)) (hSr : ∀ p r, p < 6 → sp p = some r → r < 200) (hSle : ∀ p, p < 4 → sStX ι sp year m p ≤ 2430) : gCe K 4 0 0 jX9_bearing [vR 9, vI year, vI m] ι ρ Λ (some (vI (sBeX ι sp year m))) ι ρ Λ := by
  refine gC_of (by decide) (nle rfl) ?_
  refine x_sipush 2430 DX9_bearing_0 (by decide) ?_
  refine x_istore_n 3 (lv' := [some (vR 9), some (vI year), some (vI m), some (vI 2430), none, none, none]) DX9_bearing_3 rfl ⟨nlt rfl, nlt rfl⟩ rfl ?_
  refine x_bipush 99 DX9_bearing_4 (by decide) ?_
  refine x_istore (lv' := [some (vR 9), some (vI year), some (vI m), some (vI 2430), some (vI 99), none, none]) DX9_bearing_6 ⟨nlt rfl, nlt rfl⟩ rfl ?_
  refine x_iconst 0 DX9_bearing_8 (by decide) ?_
  refine x_istore (lv' := [some (vR 9), some (vI year), some (vI m), some (vI 2430), some (vI 99), some (vI 0), none]) DX9_bearing_9 ⟨nlt rfl, nlt rfl⟩ rfl ?_
  refine x_iconst 0 DX9_bearing_11 (by decide) ?_
  refine x_istore (lv' := [some (vR 9), some (vI year), some (vI m), some (vI 2430), some (vI 99), some (vI 0), some (vI 0)]) DX9_bearing_12 ⟨nlt rfl, nlt rfl⟩ rfl ?_
  refine x_iload DX9_bearing_14 rfl ?_
  refine x_iconst 4 DX9_bearing_16 (by decide) ?_
  refine x_icmp_ge 79 DX9_bearing_17 (by decide) (fun h => absurd h (by decide)) (fun _ => ?_)
  rcases hs0 : sp 0 with _ | r0
  · refine x_aload_n 0 DX9_bearing_20 rfl rfl ?_
    refine x_getr 0 (some 10) DX9_bearing_21 (Or.inr F9_11) rfl rfl (hF.1 9 0 10 rfl) ?_
    refine x_iload DX9_bearing_24 rfl ?_
    refine x_aald (t := 4) 0 none rfl DX9_bearing_26 rfl ⟨by decide, by decide⟩ (gIn.fx hF (c := 10) (n := 6) rfl (⟨by decide, by decide⟩)) (by rw [hSp 0 (by decide), hs0]; rfl) ?_
    refine x_ifnonnull 32 DX9_bearing_27 (by decide) (fun _ h => by cases h) (fun _ => ?_)
    refine x_iconst 0 DX9_bearing_30 (by decide) ?_
    exact x_ireturn DX9_bearing_31 rfl ⟨by rw [sBeX, if_pos (by grind)], rfl, rfl, rfl⟩
  · have hb0 := hSr 0 _ (by decide) hs0
    refine x_aload_n 0 DX9_bearing_20 rfl rfl ?_
    refine x_getr 0 (some 10) DX9_bearing_21 (Or.inr F9_11) rfl rfl (hF.1 9 0 10 rfl) ?_
    refine x_iload DX9_bearing_24 rfl ?_
    refine x_aald (t := 4) 0 (some (200 + r0)) rfl DX9_bearing_26 rfl ⟨by decide, by decide⟩ (gIn.fx hF (c := 10) (n := 6) rfl (⟨by decide, by decide⟩)) (by rw [hSp 0 (by decide), hs0]; rfl) ?_
    refine x_ifnonnull 32 DX9_bearing_27 (by decide) (fun _ _ => ?_) (fun h => by cases h)
    refine x_iload_n 3 DX9_bearing_32 rfl rfl ?_
    refine x_aload_n 0 DX9_bearing_33 rfl rfl ?_
    refine x_iload DX9_bearing_34 rfl ?_
    refine x_iload_n 1 DX9_bearing_36 rfl rfl ?_
    refine x_iload_n 2 DX9_bearing_37 rfl rfl ?_
    refine x_Ve (ci := 9) (av := [vI 0, vI year, vI m]) (rest := [vI 2430]) (st' := [vI (sStX ι sp year m 0), vI 2430]) 0 0 DX9_bearing_38 L9_52 rfl rfl rfl rfl rfl ⟨nle rfl, nle rfl, nle rfl⟩ ⟨rfl, nle rfl⟩ ⟨rfl, nle rfl⟩ (x_strengthAt K 0 year m ι ρ Λ hF sp hSp hSr ⟨by decide, by decide⟩) rfl ?_
    refine x_Se (av := [vI 2430, vI (sStX ι sp year m 0)]) (rest := []) (st' := [vI (imin 2430 (sStX ι sp year m 0))]) 0 0 DX9_bearing_41 L9_56 rfl rfl ⟨nle rfl, nle rfl, nle rfl⟩ ⟨rfl, nle rfl⟩ ⟨rfl, nle rfl⟩ (j_min K 2430 (sStX ι sp year m 0) ι ρ Λ) rfl ?_
    refine x_istore_n 3 (lv' := [some (vR 9), some (vI year), some (vI m), some (vI (imin 2430 (sStX ι sp year m 0))), some (vI 99), some (vI 0), some (vI 0)]) DX9_bearing_44 rfl ⟨nlt rfl, nlt rfl⟩ rfl ?_
    refine x_iload DX9_bearing_45 rfl ?_
    refine x_aload_n 0 DX9_bearing_47 rfl rfl ?_
    refine x_getr 1 (some 11) DX9_bearing_48 (Or.inr F9_17) rfl rfl (hF.1 9 1 11 rfl) ?_
    refine x_iload DX9_bearing_51 rfl ?_
    refine x_iald (v := (ι 11 0)) 0 rfl DX9_bearing_53 rfl (gIn.fx hF (c := 11) (n := 6) rfl (⟨by decide, by decide⟩)) rfl ?_
    refine x_Se (av := [vI 99, vI (ι 11 0)]) (rest := []) (st' := [vI (imin 99 (ι 11 0))]) 0 0 DX9_bearing_54 L9_56 rfl rfl ⟨nle rfl, nle rfl, nle rfl⟩ ⟨rfl, nle rfl⟩ ⟨rfl, nle rfl⟩ (j_min K 99 (ι 11 0) ι ρ Λ) rfl ?_
    refine x_istore (lv' := [some (vR 9), some (vI year), some (vI m), some (vI (imin 2430 (sStX ι sp year m 0))), some (vI (imin 99 (ι 11 0))), some (vI 0), some (vI 0)]) DX9_bearing_57 ⟨nlt rfl, nlt rfl⟩ rfl ?_
    refine x_iload DX9_bearing_59 rfl ?_
    refine x_aload_n 0 DX9_bearing_61 rfl rfl ?_
    refine x_getr 1 (some 11) DX9_bearing_62 (Or.inr F9_17) rfl rfl (hF.1 9 1 11 rfl) ?_
    refine x_iload DX9_bearing_65 rfl ?_
    refine x_iald (v := (ι 11 0)) 0 rfl DX9_bearing_67 rfl (gIn.fx hF (c := 11) (n := 6) rfl (⟨by decide, by decide⟩)) rfl ?_
    refine x_Se (av := [vI 0, vI (ι 11 0)]) (rest := []) (st' := [vI (imax 0 (ι 11 0))]) 0 0 DX9_bearing_68 L9_46 rfl rfl ⟨nle rfl, nle rfl, nle rfl⟩ ⟨rfl, nle rfl⟩ ⟨rfl, nle rfl⟩ (j_max K 0 (ι 11 0) ι ρ Λ) rfl ?_
    refine x_istore (lv' := [some (vR 9), some (vI year), some (vI m), some (vI (imin 2430 (sStX ι sp year m 0))), some (vI (imin 99 (ι 11 0))), some (vI (imax 0 (ι 11 0))), some (vI 0)]) DX9_bearing_71 ⟨nlt rfl, nlt rfl⟩ rfl ?_
    refine x_iinc 1 (lv' := [some (vR 9), some (vI year), some (vI m), some (vI (imin 2430 (sStX ι sp year m 0))), some (vI (imin 99 (ι 11 0))), some (vI (imax 0 (ι 11 0))), some (vI 1)]) DX9_bearing_73 rfl rfl (nlt rfl) rfl ?_
    refine x_goto 14 DX9_bearing_76 (by decide) ?_
    refine x_iload DX9_bearing_14 rfl ?_
    refine x_iconst 4 DX9_bearing_16 (by decide) ?_
    refine x_icmp_ge 79 DX9_bearing_17 (by decide) (fun h => absurd h (by decide)) (fun _ => ?_)
    rcases hs1 : sp 1 with _ | r1
    · refine x_aload_n 0 DX9_bearing_20 rfl rfl ?_
      refine x_getr 0 (some 10) DX9_bearing_21 (Or.inr F9_11) rfl rfl (hF.1 9 0 10 rfl) ?_
      refine x_iload DX9_bearing_24 rfl ?_
      refine x_aald (t := 4) 1 none rfl DX9_bearing_26 rfl ⟨by decide, by decide⟩ (gIn.fx hF (c := 10) (n := 6) rfl (⟨by decide, by decide⟩)) (by rw [hSp 1 (by decide), hs1]; rfl) ?_
      refine x_ifnonnull 32 DX9_bearing_27 (by decide) (fun _ h => by cases h) (fun _ => ?_)
      refine x_iconst 0 DX9_bearing_30 (by decide) ?_
      exact x_ireturn DX9_bearing_31 rfl ⟨by rw [sBeX, if_pos (by grind)], rfl, rfl, rfl⟩
    · have hb1 := hSr 1 _ (by decide) hs1
      refine x_aload_n 0 DX9_bearing_20 rfl rfl ?_
      refine x_getr 0 (some 10) DX9_bearing_21 (Or.inr F9_11) rfl rfl (hF.1 9 0 10 rfl) ?_
      refine x_iload DX9_bearing_24 rfl ?_
      refine x_aald (t := 4) 1 (some (200 + r1)) rfl DX9_bearing_26 rfl ⟨by decide, by decide⟩ (gIn.fx hF (c := 10) (n := 6) rfl (⟨by decide, by decide⟩)) (by rw [hSp 1 (by decide), hs1]; rfl) ?_
      refine x_ifnonnull 32 DX9_bearing_27 (by decide) (fun _ _ => ?_) (fun h => by cases h)
      refine x_iload_n 3 DX9_bearing_32 rfl rfl ?_
      refine x_aload_n 0 DX9_bearing_33 rfl rfl ?_
      refine x_iload DX9_bearing_34 rfl ?_
      refine x_iload_n 1 DX9_bearing_36 rfl rfl ?_
      refine x_iload_n 2 DX9_bearing_37 rfl rfl ?_
      refine x_Ve (ci := 9) (av := [vI 1, vI year, vI m]) (rest := [vI (imin 2430 (sStX ι sp year m 0))]) (st' := [vI (sStX ι sp year m 1), vI (imin 2430 (sStX ι sp year m 0))]) 0 0 DX9_bearing_38 L9_52 rfl rfl rfl rfl rfl ⟨nle rfl, nle rfl, nle rfl⟩ ⟨rfl, nle rfl⟩ ⟨rfl, nle rfl⟩ (x_strengthAt K 1 year m ι ρ Λ hF sp hSp hSr ⟨by decide, by decide⟩) rfl ?_
      refine x_Se (av := [vI (imin 2430 (sStX ι sp year m 0)), vI (sStX ι sp year m 1)]) (rest := []) (st' := [vI (imin (imin 2430 (sStX ι sp year m 0)) (sStX ι sp year m 1))]) 0 0 DX9_bearing_41 L9_56 rfl rfl ⟨nle rfl, nle rfl, nle rfl⟩ ⟨rfl, nle rfl⟩ ⟨rfl, nle rfl⟩ (j_min K (imin 2430 (sStX ι sp year m 0)) (sStX ι sp year m 1) ι ρ Λ) rfl ?_
      refine x_istore_n 3 (lv' := [some (vR 9), some (vI year), some (vI m), some (vI (imin (imin 2430 (sStX ι sp year m 0)) (sStX ι sp year m 1))), some (vI (imin 99 (ι 11 0))), some (vI (imax 0 (ι 11 0))), some (vI 1)]) DX9_bearing_44 rfl ⟨nlt rfl, nlt rfl⟩ rfl ?_
      refine x_iload DX9_bearing_45 rfl ?_
      refine x_aload_n 0 DX9_bearing_47 rfl rfl ?_
      refine x_getr 1 (some 11) DX9_bearing_48 (Or.inr F9_17) rfl rfl (hF.1 9 1 11 rfl) ?_
      refine x_iload DX9_bearing_51 rfl ?_
      refine x_iald (v := (ι 11 1)) 1 rfl DX9_bearing_53 rfl (gIn.fx hF (c := 11) (n := 6) rfl (⟨by decide, by decide⟩)) rfl ?_
      refine x_Se (av := [vI (imin 99 (ι 11 0)), vI (ι 11 1)]) (rest := []) (st' := [vI (imin (imin 99 (ι 11 0)) (ι 11 1))]) 0 0 DX9_bearing_54 L9_56 rfl rfl ⟨nle rfl, nle rfl, nle rfl⟩ ⟨rfl, nle rfl⟩ ⟨rfl, nle rfl⟩ (j_min K (imin 99 (ι 11 0)) (ι 11 1) ι ρ Λ) rfl ?_
      refine x_istore (lv' := [some (vR 9), some (vI year), some (vI m), some (vI (imin (imin 2430 (sStX ι sp year m 0)) (sStX ι sp year m 1))), some (vI (imin (imin 99 (ι 11 0)) (ι 11 1))), some (vI (imax 0 (ι 11 0))), some (vI 1)]) DX9_bearing_57 ⟨nlt rfl, nlt rfl⟩ rfl ?_
      refine x_iload DX9_bearing_59 rfl ?_
      refine x_aload_n 0 DX9_bearing_61 rfl rfl ?_
      refine x_getr 1 (some 11) DX9_bearing_62 (Or.inr F9_17) rfl rfl (hF.1 9 1 11 rfl) ?_
      refine x_iload DX9_bearing_65 rfl ?_
      refine x_iald (v := (ι 11 1)) 1 rfl DX9_bearing_67 rfl (gIn.fx hF (c := 11) (n := 6) rfl (⟨by decide, by decide⟩)) rfl ?_
      refine x_Se (av := [vI (imax 0 (ι 11 0)), vI (ι 11 1)]) (rest := []) (st' := [vI (imax (imax 0 (ι 11 0)) (ι 11 1))]) 0 0 DX9_bearing_68 L9_46 rfl rfl ⟨nle rfl, nle rfl, nle rfl⟩ ⟨rfl, nle rfl⟩ ⟨rfl, nle rfl⟩ (j_max K (imax 0 (ι 11 0)) (ι 11 1) ι ρ Λ) rfl ?_
      refine x_istore (lv' := [some (vR 9), some (vI year), some (vI m), some (vI (imin (imin 2430 (sStX ι sp year m 0)) (sStX ι sp year m 1))), some (vI (imin (imin 99 (ι 11 0)) (ι 11 1))), some (vI (imax (imax 0 (ι 11 0)) (ι 11 1))), some (vI 1)]) DX9_bearing_71 ⟨nlt rfl, nlt rfl⟩ rfl ?_
      refine x_iinc 2 (lv' := [some (vR 9), some (vI year), some (vI m), some (vI (imin (imin 2430 (sStX ι sp year m 0)) (sStX ι sp year m 1))), some (vI (imin (imin 99 (ι 11 0)) (ι 11 1))), some (vI (imax (imax 0 (ι 11 0)) (ι 11 1))), some (vI 2)]) DX9_bearing_73 rfl rfl (nlt rfl) rfl ?_
      refine x_goto 14 DX9_bearing_76 (by decide) ?_
      refine x_iload DX9_bearing_14 rfl ?_
      refine x_iconst 4 DX9_bearing_16 (by decide) ?_
      refine x_icmp_ge 79 DX9_bearing_17 (by decide) (fun h => absurd h (by decide)) (fun _ => ?_)
      rcases hs2 : sp 2 with _ | r2
      · refine x_aload_n 0 DX9_bearing_20 rfl rfl ?_
        refine x_getr 0 (some 10) DX9_bearing_21 (Or.inr F9_11) rfl rfl (hF.1 9 0 10 rfl) ?_
        refine x_iload DX9_bearing_24 rfl ?_
        refine x_aald (t := 4) 2 none rfl DX9_bearing_26 rfl ⟨by decide, by decide⟩ (gIn.fx hF (c := 10) (n := 6) rfl (⟨by decide, by decide⟩)) (by rw [hSp 2 (by decide), hs2]; rfl) ?_
        refine x_ifnonnull 32 DX9_bearing_27 (by decide) (fun _ h => by cases h) (fun _ => ?_)
        refine x_iconst 0 DX9_bearing_30 (by decide) ?_
        exact x_ireturn DX9_bearing_31 rfl ⟨by rw [sBeX, if_pos (by grind)], rfl, rfl, rfl⟩
      · have hb2 := hSr 2 _ (by decide) hs2
        refine x_aload_n 0 DX9_bearing_20 rfl rfl ?_
        refine x_getr 0 (some 10) DX9_bearing_21 (Or.inr F9_11) rfl rfl (hF.1 9 0 10 rfl) ?_
        refine x_iload DX9_bearing_24 rfl ?_
        refine x_aald (t := 4) 2 (some (200 + r2)) rfl DX9_bearing_26 rfl ⟨by decide, by decide⟩ (gIn.fx hF (c := 10) (n := 6) rfl (⟨by decide, by decide⟩)) (by rw [hSp 2 (by decide), hs2]; rfl) ?_
        refine x_ifnonnull 32 DX9_bearing_27 (by decide) (fun _ _ => ?_) (fun h => by cases h)
        refine x_iload_n 3 DX9_bearing_32 rfl rfl ?_
        refine x_aload_n 0 DX9_bearing_33 rfl rfl ?_
        refine x_iload DX9_bearing_34 rfl ?_
        refine x_iload_n 1 DX9_bearing_36 rfl rfl ?_
        refine x_iload_n 2 DX9_bearing_37 rfl rfl ?_
        refine x_Ve (ci := 9) (av := [vI 2, vI year, vI m]) (rest := [vI (imin (imin 2430 (sStX ι sp year m 0)) (sStX ι sp year m 1))]) (st' := [vI (sStX ι sp year m 2), vI (imin (imin 2430 (sStX ι sp year m 0)) (sStX ι sp year m 1))]) 0 0 DX9_bearing_38 L9_52 rfl rfl rfl rfl rfl ⟨nle rfl, nle rfl, nle rfl⟩ ⟨rfl, nle rfl⟩ ⟨rfl, nle rfl⟩ (x_strengthAt K 2 year m ι ρ Λ hF sp hSp hSr ⟨by decide, by decide⟩) rfl ?_
        refine x_Se (av := [vI (imin (imin 2430 (sStX ι sp year m 0)) (sStX ι sp year m 1)), vI (sStX ι sp year m 2)]) (rest := []) (st' := [vI (imin (imin (imin 2430 (sStX ι sp year m 0)) (sStX ι sp year m 1)) (sStX ι sp year m 2))]) 0 0 DX9_bearing_41 L9_56 rfl rfl ⟨nle rfl, nle rfl, nle rfl⟩ ⟨rfl, nle rfl⟩ ⟨rfl, nle rfl⟩ (j_min K (imin (imin 2430 (sStX ι sp year m 0)) (sStX ι sp year m 1)) (sStX ι sp year m 2) ι ρ Λ) rfl ?_
        refine x_istore_n 3 (lv' := [some (vR 9), some (vI year), some (vI m), some (vI (imin (imin (imin 2430 (sStX ι sp year m 0)) (sStX ι sp year m 1)) (sStX ι sp year m 2))), some (vI (imin (imin 99 (ι 11 0)) (ι 11 1))), some (vI (imax (imax 0 (ι 11 0)) (ι 11 1))), some (vI 2)]) DX9_bearing_44 rfl ⟨nlt rfl, nlt rfl⟩ rfl ?_
        refine x_iload DX9_bearing_45 rfl ?_
        refine x_aload_n 0 DX9_bearing_47 rfl rfl ?_
        refine x_getr 1 (some 11) DX9_bearing_48 (Or.inr F9_17) rfl rfl (hF.1 9 1 11 rfl) ?_
        refine x_iload DX9_bearing_51 rfl ?_
        refine x_iald (v := (ι 11 2)) 2 rfl DX9_bearing_53 rfl (gIn.fx hF (c := 11) (n := 6) rfl (⟨by decide, by decide⟩)) rfl ?_
        refine x_Se (av := [vI (imin (imin 99 (ι 11 0)) (ι 11 1)), vI (ι 11 2)]) (rest := []) (st' := [vI (imin (imin (imin 99 (ι 11 0)) (ι 11 1)) (ι 11 2))]) 0 0 DX9_bearing_54 L9_56 rfl rfl ⟨nle rfl, nle rfl, nle rfl⟩ ⟨rfl, nle rfl⟩ ⟨rfl, nle rfl⟩ (j_min K (imin (imin 99 (ι 11 0)) (ι 11 1)) (ι 11 2) ι ρ Λ) rfl ?_
        refine x_istore (lv' := [some (vR 9), some (vI year), some (vI m), some (vI (imin (imin (imin 2430 (sStX ι sp year m 0)) (sStX ι sp year m 1)) (sStX ι sp year m 2))), some (vI (imin (imin (imin 99 (ι 11 0)) (ι 11 1)) (ι 11 2))), some (vI (imax (imax 0 (ι 11 0)) (ι 11 1))), some (vI 2)]) DX9_bearing_57 ⟨nlt rfl, nlt rfl⟩ rfl ?_
        refine x_iload DX9_bearing_59 rfl ?_
        refine x_aload_n 0 DX9_bearing_61 rfl rfl ?_
        refine x_getr 1 (some 11) DX9_bearing_62 (Or.inr F9_17) rfl rfl (hF.1 9 1 11 rfl) ?_
        refine x_iload DX9_bearing_65 rfl ?_
        refine x_iald (v := (ι 11 2)) 2 rfl DX9_bearing_67 rfl (gIn.fx hF (c := 11) (n := 6) rfl (⟨by decide, by decide⟩)) rfl ?_
        refine x_Se (av := [vI (imax (imax 0 (ι 11 0)) (ι 11 1)), vI (ι 11 2)]) (rest := []) (st' := [vI (imax (imax (imax 0 (ι 11 0)) (ι 11 1)) (ι 11 2))]) 0 0 DX9_bearing_68 L9_46 rfl rfl ⟨nle rfl, nle rfl, nle rfl⟩ ⟨rfl, nle rfl⟩ ⟨rfl, nle rfl⟩ (j_max K (imax (imax 0 (ι 11 0)) (ι 11 1)) (ι 11 2) ι ρ Λ) rfl ?_
        refine x_istore (lv' := [some (vR 9), some (vI year), some (vI m), some (vI (imin (imin (imin 2430 (sStX ι sp year m 0)) (sStX ι sp year m 1)) (sStX ι sp year m 2))), some (vI (imin (imin (imin 99 (ι 11 0)) (ι 11 1)) (ι 11 2))), some (vI (imax (imax (imax 0 (ι 11 0)) (ι 11 1)) (ι 11 2))), some (vI 2)]) DX9_bearing_71 ⟨nlt rfl, nlt rfl⟩ rfl ?_
        refine x_iinc 3 (lv' := [some (vR 9), some (vI year), some (vI m), some (vI (imin (imin (imin 2430 (sStX ι sp year m 0)) (sStX ι sp year m 1)) (sStX ι sp year m 2))), some (vI (imin (imin (imin 99 (ι 11 0)) (ι 11 1)) (ι 11 2))), some (vI (imax (imax (imax 0 (ι 11 0)) (ι 11 1)) (ι 11 2))), some (vI 3)]) DX9_bearing_73 rfl rfl (nlt rfl) rfl ?_
        refine x_goto 14 DX9_bearing_76 (by decide) ?_
        refine x_iload DX9_bearing_14 rfl ?_
        refine x_iconst 4 DX9_bearing_16 (by decide) ?_
        refine x_icmp_ge 79 DX9_bearing_17 (by decide) (fun h => absurd h (by decide)) (fun _ => ?_)
        rcases hs3 : sp 3 with _ | r3
        · refine x_aload_n 0 DX9_bearing_20 rfl rfl ?_
          refine x_getr 0 (some 10) DX9_bearing_21 (Or.inr F9_11) rfl rfl (hF.1 9 0 10 rfl) ?_
          refine x_iload DX9_bearing_24 rfl ?_
          refine x_aald (t := 4) 3 none rfl DX9_bearing_26 rfl ⟨by decide, by decide⟩ (gIn.fx hF (c := 10) (n := 6) rfl (⟨by decide, by decide⟩)) (by rw [hSp 3 (by decide), hs3]; rfl) ?_
          refine x_ifnonnull 32 DX9_bearing_27 (by decide) (fun _ h => by cases h) (fun _ => ?_)
          refine x_iconst 0 DX9_bearing_30 (by decide) ?_
          exact x_ireturn DX9_bearing_31 rfl ⟨by rw [sBeX, if_pos (by grind)], rfl, rfl, rfl⟩
        · have hb3 := hSr 3 _ (by decide) hs3
          refine x_aload_n 0 DX9_bearing_20 rfl rfl ?_
          refine x_getr 0 (some 10) DX9_bearing_21 (Or.inr F9_11) rfl rfl (hF.1 9 0 10 rfl) ?_
          refine x_iload DX9_bearing_24 rfl ?_
          refine x_aald (t := 4) 3 (some (200 + r3)) rfl DX9_bearing_26 rfl ⟨by decide, by decide⟩ (gIn.fx hF (c := 10) (n := 6) rfl (⟨by decide, by decide⟩)) (by rw [hSp 3 (by decide), hs3]; rfl) ?_
          refine x_ifnonnull 32 DX9_bearing_27 (by decide) (fun _ _ => ?_) (fun h => by cases h)
          refine x_iload_n 3 DX9_bearing_32 rfl rfl ?_
          refine x_aload_n 0 DX9_bearing_33 rfl rfl ?_
          refine x_iload DX9_bearing_34 rfl ?_
          refine x_iload_n 1 DX9_bearing_36 rfl rfl ?_
          refine x_iload_n 2 DX9_bearing_37 rfl rfl ?_
          refine x_Ve (ci := 9) (av := [vI 3, vI year, vI m]) (rest := [vI (imin (imin (imin 2430 (sStX ι sp year m 0)) (sStX ι sp year m 1)) (sStX ι sp year m 2))]) (st' := [vI (sStX ι sp year m 3), vI (imin (imin (imin 2430 (sStX ι sp year m 0)) (sStX ι sp year m 1)) (sStX ι sp year m 2))]) 0 0 DX9_bearing_38 L9_52 rfl rfl rfl rfl rfl ⟨nle rfl, nle rfl, nle rfl⟩ ⟨rfl, nle rfl⟩ ⟨rfl, nle rfl⟩ (x_strengthAt K 3 year m ι ρ Λ hF sp hSp hSr ⟨by decide, by decide⟩) rfl ?_
          refine x_Se (av := [vI (imin (imin (imin 2430 (sStX ι sp year m 0)) (sStX ι sp year m 1)) (sStX ι sp year m 2)), vI (sStX ι sp year m 3)]) (rest := []) (st' := [vI (imin (imin (imin (imin 2430 (sStX ι sp year m 0)) (sStX ι sp year m 1)) (sStX ι sp year m 2)) (sStX ι sp year m 3))]) 0 0 DX9_bearing_41 L9_56 rfl rfl ⟨nle rfl, nle rfl, nle rfl⟩ ⟨rfl, nle rfl⟩ ⟨rfl, nle rfl⟩ (j_min K (imin (imin (imin 2430 (sStX ι sp year m 0)) (sStX ι sp year m 1)) (sStX ι sp year m 2)) (sStX ι sp year m 3) ι ρ Λ) rfl ?_
          refine x_istore_n 3 (lv' := [some (vR 9), some (vI year), some (vI m), some (vI (imin (imin (imin (imin 2430 (sStX ι sp year m 0)) (sStX ι sp year m 1)) (sStX ι sp year m 2)) (sStX ι sp year m 3))), some (vI (imin (imin (imin 99 (ι 11 0)) (ι 11 1)) (ι 11 2))), some (vI (imax (imax (imax 0 (ι 11 0)) (ι 11 1)) (ι 11 2))), some (vI 3)]) DX9_bearing_44 rfl ⟨nlt rfl, nlt rfl⟩ rfl ?_
          refine x_iload DX9_bearing_45 rfl ?_
          refine x_aload_n 0 DX9_bearing_47 rfl rfl ?_
          refine x_getr 1 (some 11) DX9_bearing_48 (Or.inr F9_17) rfl rfl (hF.1 9 1 11 rfl) ?_
          refine x_iload DX9_bearing_51 rfl ?_
          refine x_iald (v := (ι 11 3)) 3 rfl DX9_bearing_53 rfl (gIn.fx hF (c := 11) (n := 6) rfl (⟨by decide, by decide⟩)) rfl ?_
          refine x_Se (av := [vI (imin (imin (imin 99 (ι 11 0)) (ι 11 1)) (ι 11 2)), vI (ι 11 3)]) (rest := []) (st' := [vI (imin (imin (imin (imin 99 (ι 11 0)) (ι 11 1)) (ι 11 2)) (ι 11 3))]) 0 0 DX9_bearing_54 L9_56 rfl rfl ⟨nle rfl, nle rfl, nle rfl⟩ ⟨rfl, nle rfl⟩ ⟨rfl, nle rfl⟩ (j_min K (imin (imin (imin 99 (ι 11 0)) (ι 11 1)) (ι 11 2)) (ι 11 3) ι ρ Λ) rfl ?_
          refine x_istore (lv' := [some (vR 9), some (vI year), some (vI m), some (vI (imin (imin (imin (imin 2430 (sStX ι sp year m 0)) (sStX ι sp year m 1)) (sStX ι sp year m 2)) (sStX ι sp year m 3))), some (vI (imin (imin (imin (imin 99 (ι 11 0)) (ι 11 1)) (ι 11 2)) (ι 11 3))), some (vI (imax (imax (imax 0 (ι 11 0)) (ι 11 1)) (ι 11 2))), some (vI 3)]) DX9_bearing_57 ⟨nlt rfl, nlt rfl⟩ rfl ?_
          refine x_iload DX9_bearing_59 rfl ?_
          refine x_aload_n 0 DX9_bearing_61 rfl rfl ?_
          refine x_getr 1 (some 11) DX9_bearing_62 (Or.inr F9_17) rfl rfl (hF.1 9 1 11 rfl) ?_
          refine x_iload DX9_bearing_65 rfl ?_
          refine x_iald (v := (ι 11 3)) 3 rfl DX9_bearing_67 rfl (gIn.fx hF (c := 11) (n := 6) rfl (⟨by decide, by decide⟩)) rfl ?_
          refine x_Se (av := [vI (imax (imax (imax 0 (ι 11 0)) (ι 11 1)) (ι 11 2)), vI (ι 11 3)]) (rest := []) (st' := [vI (imax (imax (imax (imax 0 (ι 11 0)) (ι 11 1)) (ι 11 2)) (ι 11 3))]) 0 0 DX9_bearing_68 L9_46 rfl rfl ⟨nle rfl, nle rfl, nle rfl⟩ ⟨rfl, nle rfl⟩ ⟨rfl, nle rfl⟩ (j_max K (imax (imax (imax 0 (ι 11 0)) (ι 11 1)) (ι 11 2)) (ι 11 3) ι ρ Λ) rfl ?_
          refine x_istore (lv' := [some (vR 9), some (vI year), some (vI m), some (vI (imin (imin (imin (imin 2430 (sStX ι sp year m 0)) (sStX ι sp year m 1)) (sStX ι sp year m 2)) (sStX ι sp year m 3))), some (vI (imin (imin (imin (imin 99 (ι 11 0)) (ι 11 1)) (ι 11 2)) (ι 11 3))), some (vI (imax (imax (imax (imax 0 (ι 11 0)) (ι 11 1)) (ι 11 2)) (ι 11 3))), some (vI 3)]) DX9_bearing_71 ⟨nlt rfl, nlt rfl⟩ rfl ?_
          refine x_iinc 4 (lv' := [some (vR 9), some (vI year), some (vI m), some (vI (imin (imin (imin (imin 2430 (sStX ι sp year m 0)) (sStX ι sp year m 1)) (sStX ι sp year m 2)) (sStX ι sp year m 3))), some (vI (imin (imin (imin (imin 99 (ι 11 0)) (ι 11 1)) (ι 11 2)) (ι 11 3))), some (vI (imax (imax (imax (imax 0 (ι 11 0)) (ι 11 1)) (ι 11 2)) (ι 11 3))), some (vI 4)]) DX9_bearing_73 rfl rfl (nlt rfl) rfl ?_
          refine x_goto 14 DX9_bearing_76 (by decide) ?_
          refine x_iload DX9_bearing_14 rfl ?_
          refine x_iconst 4 DX9_bearing_16 (by decide) ?_
          refine x_icmp_ge 79 DX9_bearing_17 (by decide) (fun _ => ?_) (fun h => absurd h (by decide))
          refine x_iconst 0 DX9_bearing_79 (by decide) ?_
          refine x_iconst 4 DX9_bearing_80 (by decide) ?_
          refine x_iload_n 3 DX9_bearing_81 rfl rfl ?_
          refine x_imul DX9_bearing_82 ?_
          refine x_iload DX9_bearing_83 rfl ?_
          refine x_iload DX9_bearing_85 rfl ?_
          refine x_isub DX9_bearing_87 ?_
          refine x_isub DX9_bearing_88 ?_
          refine x_Se (av := [vI 0, vI ((4 * (imin (imin (imin (imin 2430 (sStX ι sp year m 0)) (sStX ι sp year m 1)) (sStX ι sp year m 2)) (sStX ι sp year m 3))) - ((imax (imax (imax (imax 0 (ι 11 0)) (ι 11 1)) (ι 11 2)) (ι 11 3)) - (imin (imin (imin (imin 99 (ι 11 0)) (ι 11 1)) (ι 11 2)) (ι 11 3))))]) (rest := []) (st' := [vI (imax 0 ((4 * (imin (imin (imin (imin 2430 (sStX ι sp year m 0)) (sStX ι sp year m 1)) (sStX ι sp year m 2)) (sStX ι sp year m 3))) - ((imax (imax (imax (imax 0 (ι 11 0)) (ι 11 1)) (ι 11 2)) (ι 11 3)) - (imin (imin (imin (imin 99 (ι 11 0)) (ι 11 1)) (ι 11 2)) (ι 11 3)))))]) 0 0 DX9_bearing_89 L9_46 rfl rfl ⟨nle rfl, nle rfl, nle rfl⟩ ⟨rfl, nle rfl⟩ ⟨rfl, nle rfl⟩ (j_max K 0 ((4 * (imin (imin (imin (imin 2430 (sStX ι sp year m 0)) (sStX ι sp year m 1)) (sStX ι sp year m 2)) (sStX ι sp year m 3))) - ((imax (imax (imax (imax 0 (ι 11 0)) (ι 11 1)) (ι 11 2)) (ι 11 3)) - (imin (imin (imin (imin 99 (ι 11 0)) (ι 11 1)) (ι 11 2)) (ι 11 3)))) ι ρ Λ) rfl ?_
          exact x_ireturn DX9_bearing_92 rfl ⟨by rw [sBeX, if_neg (by grind), imin_2430 (hSle 0 (by decide))]; rfl, rfl, rfl, rfl⟩
theorem x_lets (K : gK) (v year m : Int32) (ι : gIm) (ρ : gRm) (Λ : gLm) (hF : gFix ρ Λ) (sp : Nat → Option Nat) (hSp : ∀ p, p < 6 → ρ 10 p = (sp p).map (200 + ·)) (hSr : ∀ p r, p < 6 → sp p = some r → r < 200) (hSle : ∀ p, p < 4 → sStX ι sp year m p ≤ 2430) : gCe K 5 0 0 jX9_lets [vR 9, vI v, vI year, vI m] ι ρ Λ (some (vI (sLetX ι sp year v m))) ι ρ Λ := by
  refine gC_of (by decide) (nle rfl) ?_
  refine x_iconst 4 DX9_lets_0 (by decide) ?_
  refine x_istore (lv' := [some (vR 9), some (vI v), some (vI year), some (vI m), some (vI 4)]) DX9_lets_1 ⟨nlt rfl, nlt rfl⟩ rfl ?_
  refine x_iload DX9_lets_3 rfl ?_
  refine x_bipush 6 DX9_lets_5 (by decide) ?_
  refine x_icmp_ge 29 DX9_lets_7 (by decide) (fun h => absurd h (by decide)) (fun _ => ?_)
  refine x_aload_n 0 DX9_lets_10 rfl rfl ?_
  refine x_iload DX9_lets_11 rfl ?_
  refine x_iload_n 2 DX9_lets_13 rfl rfl ?_
  refine x_iload_n 3 DX9_lets_14 rfl rfl ?_
  refine x_Ve (ci := 9) (av := [vI 4, vI year, vI m]) (rest := []) (st' := [vI (sStX ι sp year m 4)]) 0 0 DX9_lets_15 L9_52 rfl rfl rfl rfl rfl ⟨nle rfl, nle rfl, nle rfl⟩ ⟨rfl, nle rfl⟩ ⟨rfl, nle rfl⟩ (x_strengthAt K 4 year m ι ρ Λ hF sp hSp hSr ⟨by decide, by decide⟩) rfl ?_
  refine x_if_ne 23 DX9_lets_18 (by decide) (fun c_18 => ?_) (fun c_18 => ?_)
  · refine x_iinc 5 (lv' := [some (vR 9), some (vI v), some (vI year), some (vI m), some (vI 5)]) DX9_lets_23 rfl rfl (nlt rfl) rfl ?_
    refine x_goto 3 DX9_lets_26 (by decide) ?_
    refine x_iload DX9_lets_3 rfl ?_
    refine x_bipush 6 DX9_lets_5 (by decide) ?_
    refine x_icmp_ge 29 DX9_lets_7 (by decide) (fun h => absurd h (by decide)) (fun _ => ?_)
    refine x_aload_n 0 DX9_lets_10 rfl rfl ?_
    refine x_iload DX9_lets_11 rfl ?_
    refine x_iload_n 2 DX9_lets_13 rfl rfl ?_
    refine x_iload_n 3 DX9_lets_14 rfl rfl ?_
    refine x_Ve (ci := 9) (av := [vI 5, vI year, vI m]) (rest := []) (st' := [vI (sStX ι sp year m 5)]) 0 0 DX9_lets_15 L9_52 rfl rfl rfl rfl rfl ⟨nle rfl, nle rfl, nle rfl⟩ ⟨rfl, nle rfl⟩ ⟨rfl, nle rfl⟩ (x_strengthAt K 5 year m ι ρ Λ hF sp hSp hSr ⟨by decide, by decide⟩) rfl ?_
    refine x_if_ne 23 DX9_lets_18 (by decide) (fun c_18 => ?_) (fun c_18 => ?_)
    · refine x_iinc 6 (lv' := [some (vR 9), some (vI v), some (vI year), some (vI m), some (vI 6)]) DX9_lets_23 rfl rfl (nlt rfl) rfl ?_
      refine x_goto 3 DX9_lets_26 (by decide) ?_
      refine x_iload DX9_lets_3 rfl ?_
      refine x_bipush 6 DX9_lets_5 (by decide) ?_
      refine x_icmp_ge 29 DX9_lets_7 (by decide) (fun _ => ?_) (fun h => absurd h (by decide))
      refine x_iload_n 1 DX9_lets_29 rfl rfl ?_
      refine x_aload_n 0 DX9_lets_30 rfl rfl ?_
      refine x_iload_n 2 DX9_lets_31 rfl rfl ?_
      refine x_iload_n 3 DX9_lets_32 rfl rfl ?_
      refine x_Ve (ci := 9) (av := [vI year, vI m]) (rest := [vI v]) (st' := [vI (sBeX ι sp year m), vI v]) 0 0 DX9_lets_33 L9_59 rfl rfl rfl rfl rfl ⟨nle rfl, nle rfl, nle rfl⟩ ⟨rfl, nle rfl⟩ ⟨rfl, nle rfl⟩ (x_bearing K year m ι ρ Λ hF sp hSp hSr hSle) rfl ?_
      refine x_icmp_gt 43 DX9_lets_36 (by decide) (fun c_36 => ?_) (fun c_36 => ?_)
      · refine x_iconst 0 DX9_lets_43 (by decide) ?_
        exact x_zreturn DX9_lets_44 rfl (Or.inl rfl) ⟨by have h4 := sStX_nn ι sp year m 4; have h5 := sStX_nn ι sp year m 5; grind [sLetX, vLet], rfl, rfl, rfl⟩
      · refine x_iconst 1 DX9_lets_39 (by decide) ?_
        refine x_goto 44 DX9_lets_40 (by decide) ?_
        exact x_zreturn DX9_lets_44 rfl (Or.inr rfl) ⟨by have h4 := sStX_nn ι sp year m 4; have h5 := sStX_nn ι sp year m 5; grind [sLetX, vLet], rfl, rfl, rfl⟩
    · refine x_iconst 0 DX9_lets_21 (by decide) ?_
      exact x_zreturn DX9_lets_22 rfl (Or.inl rfl) ⟨by have h4 := sStX_nn ι sp year m 4; have h5 := sStX_nn ι sp year m 5; grind [sLetX, vLet], rfl, rfl, rfl⟩
  · refine x_iconst 0 DX9_lets_21 (by decide) ?_
    exact x_zreturn DX9_lets_22 rfl (Or.inl rfl) ⟨by have h4 := sStX_nn ι sp year m 4; have h5 := sStX_nn ι sp year m 5; grind [sLetX, vLet], rfl, rfl, rfl⟩
theorem x_strength (K : gK) (p : Int32) (ι : gIm) (ρ : gRm) (Λ : gLm) (hF : gFix ρ Λ) (sp : Nat → Option Nat) (hSp : ∀ p, p < 6 → ρ 10 p = (sp p).map (200 + ·)) (hSr : ∀ p r, p < 6 → sp p = some r → r < 200) : gCe K 4 0 0 jX11_strength [vR 0, vI p] ι ρ Λ (some (vI (rs (cPl p) (sStX ι sp (ι 2 0) 0 p.toNatClampNeg)))) (rsM (cPl p) 1 ι ι) ρ Λ := by
  refine gC_of (by decide) (nle rfl) ?_
  refine x_iload_n 1 DX11_strength_0 rfl rfl ?_
  refine x_Se (av := [vI p]) (rest := []) (st' := [vI (b2i (0 ≤ p ∧ p < 6))]) 0 0 DX11_strength_1 L11_217 rfl rfl ⟨nle rfl, nle rfl, nle rfl⟩ ⟨rfl, nle rfl⟩ ⟨rfl, nle rfl⟩ (x_isPlace K p ι ρ Λ) rfl ?_
  refine x_if_eq_b 26 DX11_strength_4 (by decide) (fun c_4 => ?_) (fun c_4 => ?_)
  · refine x_aload_n 0 DX11_strength_26 rfl rfl ?_
    refine x_iconst (-1) DX11_strength_27 (by decide) ?_
    refine x_Ve (ci := 11) (av := [vI (-1)]) (rest := []) (st' := [vI (-1)]) 0 0 DX11_strength_28 L11_72 rfl rfl rfl rfl rfl ⟨nle rfl, nle rfl, nle rfl⟩ ⟨rfl, nle rfl⟩ ⟨rfl, nle rfl⟩ (x_refuse K (-1) ι ρ Λ hF ⟨by decide, by decide⟩) rfl ?_
    refine x_nmι (fun ι28 e_ι28 => ?_)
    exact x_ireturn DX11_strength_31 rfl ⟨by grind [cPl, rs], by grind [cPl, rsM], rfl, rfl⟩
  · refine x_aload_n 0 DX11_strength_7 rfl rfl ?_
    refine x_getr 4 (some 9) DX11_strength_8 (Or.inr F11_37) rfl rfl (hF.1 0 4 9 rfl) ?_
    refine x_iload_n 1 DX11_strength_11 rfl rfl ?_
    refine x_aload_n 0 DX11_strength_12 rfl rfl ?_
    refine x_getr 1 (some 2) DX11_strength_13 (Or.inr F11_16) rfl rfl (hF.1 0 1 2 rfl) ?_
    refine x_geti (v := (ι 2 0)) 0 DX11_strength_16 (Or.inl F11_94) rfl rfl rfl ?_
    refine x_iconst 0 DX11_strength_19 (by decide) ?_
    refine x_Ve (ci := 9) (av := [vI p, vI (ι 2 0), vI 0]) (rest := []) (st' := [vI (sStX ι sp (ι 2 0) 0 p.toNatClampNeg)]) 0 0 DX11_strength_20 L11_121 rfl rfl rfl rfl rfl ⟨nle rfl, nle rfl, nle rfl⟩ ⟨rfl, nle rfl⟩ ⟨rfl, nle rfl⟩ (x_strengthAt K p (ι 2 0) 0 ι ρ Λ hF sp hSp hSr (by assumption)) rfl ?_
    refine x_goto 31 DX11_strength_23 (by decide) ?_
    exact x_ireturn DX11_strength_31 rfl ⟨by grind [cPl, rs], by grind [cPl, rsM], rfl, rfl⟩
theorem x_bears (K : gK)  (ι : gIm) (ρ : gRm) (Λ : gLm) (hF : gFix ρ Λ) (sp : Nat → Option Nat) (hSp : ∀ p, p < 6 → ρ 10 p = (sp p).map (200 + ·)) (hSr : ∀ p r, p < 6 → sp p = some r → r < 200) (hSle : ∀ p, p < 4 → sStX ι sp (ι 2 0) 0 p ≤ 2430) : gCe K 5 0 0 jX11_bears [vR 0] ι ρ Λ (some (vI (sBeX ι sp (ι 2 0) 0))) ι ρ Λ := by
  refine gC_of (by decide) (nle rfl) ?_
  refine x_aload_n 0 DX11_bears_0 rfl rfl ?_
  refine x_getr 4 (some 9) DX11_bears_1 (Or.inr F11_37) rfl rfl (hF.1 0 4 9 rfl) ?_
  refine x_aload_n 0 DX11_bears_4 rfl rfl ?_
  refine x_getr 1 (some 2) DX11_bears_5 (Or.inr F11_16) rfl rfl (hF.1 0 1 2 rfl) ?_
  refine x_geti (v := (ι 2 0)) 0 DX11_bears_8 (Or.inl F11_94) rfl rfl rfl ?_
  refine x_iconst 0 DX11_bears_11 (by decide) ?_
  refine x_Ve (ci := 9) (av := [vI (ι 2 0), vI 0]) (rest := []) (st' := [vI (sBeX ι sp (ι 2 0) 0)]) 0 0 DX11_bears_12 L11_229 rfl rfl rfl rfl rfl ⟨nle rfl, nle rfl, nle rfl⟩ ⟨rfl, nle rfl⟩ ⟨rfl, nle rfl⟩ (x_bearing K (ι 2 0) 0 ι ρ Λ hF sp hSp hSr hSle) rfl ?_
  exact x_ireturn DX11_bears_15 rfl ⟨rfl, rfl, rfl, rfl⟩
theorem x_load (K : gK) (v : Int32) (ι : gIm) (ρ : gRm) (Λ : gLm) (hF : gFix ρ Λ) (sp : Nat → Option Nat) (hSp : ∀ p, p < 6 → ρ 10 p = (sp p).map (200 + ·)) (hSr : ∀ p r, p < 6 → sp p = some r → r < 200) (hSle : ∀ p, p < 4 → sStX ι sp (ι 2 0) 0 p ≤ 2430) : gCe K 6 0 0 jX11_load [vR 0, vI v] ι ρ Λ (some (vI (rs (wr v 0 2000) (sLetX ι sp (ι 2 0) v 0)))) (rsM (wr v 0 2000) 1 ι ι) ρ Λ := by
  refine gC_of (by decide) (nle rfl) ?_
  refine x_iload_n 1 DX11_load_0 rfl rfl ?_
  refine x_iconst 0 DX11_load_1 (by decide) ?_
  refine x_sipush 2000 DX11_load_2 (by decide) ?_
  refine x_Se (av := [vI v, vI 0, vI 2000]) (rest := []) (st' := [vI (wr v 0 2000)]) 0 0 DX11_load_5 L11_83 rfl rfl ⟨nle rfl, nle rfl, nle rfl⟩ ⟨rfl, nle rfl⟩ ⟨rfl, nle rfl⟩ (x_misfit K v 0 2000 ι ρ Λ) rfl ?_
  refine x_istore_n 2 (lv' := [some (vR 0), some (vI v), some (vI (wr v 0 2000))]) DX11_load_8 rfl ⟨nlt rfl, nlt rfl⟩ rfl ?_
  refine x_iload_n 2 DX11_load_9 rfl rfl ?_
  refine x_if_eq 19 DX11_load_10 (by decide) (fun c_10 => ?_) (fun c_10 => ?_)
  · refine x_aload_n 0 DX11_load_19 rfl rfl ?_
    refine x_getr 4 (some 9) DX11_load_20 (Or.inr F11_37) rfl rfl (hF.1 0 4 9 rfl) ?_
    refine x_iload_n 1 DX11_load_23 rfl rfl ?_
    refine x_aload_n 0 DX11_load_24 rfl rfl ?_
    refine x_getr 1 (some 2) DX11_load_25 (Or.inr F11_16) rfl rfl (hF.1 0 1 2 rfl) ?_
    refine x_geti (v := (ι 2 0)) 0 DX11_load_28 (Or.inl F11_94) rfl rfl rfl ?_
    refine x_iconst 0 DX11_load_31 (by decide) ?_
    refine x_Ve (ci := 9) (av := [vI v, vI (ι 2 0), vI 0]) (rest := []) (st' := [vI (sLetX ι sp (ι 2 0) v 0)]) 0 0 DX11_load_32 L11_232 rfl rfl rfl rfl rfl ⟨nle rfl, nle rfl, nle rfl⟩ ⟨rfl, nle rfl⟩ ⟨rfl, nle rfl⟩ (x_lets K v (ι 2 0) 0 ι ρ Λ hF sp hSp hSr hSle) rfl ?_
    refine x_if_eq 42 DX11_load_35 (by decide) (fun c_35 => ?_) (fun c_35 => ?_)
    · refine x_iconst 0 DX11_load_42 (by decide) ?_
      exact x_ireturn DX11_load_43 rfl ⟨by grind [rs, sLetX, vLet], by grind [rsM], rfl, rfl⟩
    · refine x_iconst 1 DX11_load_38 (by decide) ?_
      refine x_goto 43 DX11_load_39 (by decide) ?_
      exact x_ireturn DX11_load_43 rfl ⟨by grind [rs, sLetX, vLet], by grind [rsM], rfl, rfl⟩
  · refine x_aload_n 0 DX11_load_13 rfl rfl ?_
    refine x_iload_n 2 DX11_load_14 rfl rfl ?_
    refine x_Ve (ci := 11) (av := [vI (wr v 0 2000)]) (rest := []) (st' := [vI (wr v 0 2000)]) 0 0 DX11_load_15 L11_72 rfl rfl rfl rfl rfl ⟨nle rfl, nle rfl, nle rfl⟩ ⟨rfl, nle rfl⟩ ⟨rfl, nle rfl⟩ (x_refuse K (wr v 0 2000) ι ρ Λ hF (wr_in _ _ _ (by assumption))) rfl ?_
    refine x_nmι (fun ι15 e_ι15 => ?_)
    exact x_ireturn DX11_load_18 rfl ⟨by grind [rs, sLetX, vLet], by grind [rsM], rfl, rfl⟩
