/-! the class, XIX: the row, I -/
theorem x_spentWith (K : gK) (k : Nat) (ι : gIm) (ρ : gRm) (Λ : gLm) (hF : gFix ρ Λ) (hRw : ∀ j, j ≤ k → ι 28 j = nI (rwI ι j) ∧ rwI ι j < 8) (hDn : ∀ j, j ≤ k → ι 29 j = nI (dnI ι j) ∧ dnI ι j < 256) (hOp : ∀ S, S < 256 → ι 27 S = nI (opR ι S) ∧ opR ι S < 256) (hk : k < 8) : gCe K 2 0 0 jX5_spentWith [vR 22, vI (nI k)] ι ρ Λ (some (vI (swI ι k))) ι ρ Λ := by
  refine gC_of (by decide) (nle rfl) ?_
  have hk8 := two8 (hRw k (by omega)).2
  refine x_iconst 1 DX5_spentWith_0 (by decide) ?_
  refine x_aload_n 0 DX5_spentWith_1 rfl rfl ?_
  refine x_getr 6 (some 28) DX5_spentWith_2 (Or.inr F5_27) rfl rfl (hF.1 22 6 28 rfl) ?_
  refine x_iload_n 1 DX5_spentWith_5 rfl rfl ?_
  refine x_iald (v := (nI (rwI ι k))) k (nI_cl1 (by omega)) DX5_spentWith_6 rfl (gIn.fx hF (c := 28) (n := 8) rfl (gIn_nI (by omega) (by omega))) ((hRw k (by omega)).1) ?_
  refine x_ishl DX5_spentWith_7 ?_
  rw [nI_shl (rwI ι k) (by have := (hRw k (by omega)).2; omega)]
  refine x_istore_n 2 (lv' := [some (vR 22), some (vI (nI k)), some (vI (nI (2 ^ rwI ι k))), none, none]) DX5_spentWith_8 rfl ⟨nlt rfl, nlt rfl⟩ rfl ?_
  refine x_aload_n 0 DX5_spentWith_9 rfl rfl ?_
  refine x_getr 8 (some 30) DX5_spentWith_10 (Or.inr F5_33) rfl rfl (hF.1 22 8 30 rfl) ?_
  refine x_iload_n 1 DX5_spentWith_13 rfl rfl ?_
  refine x_iald (v := (ι 30 k)) k (nI_cl1 (by omega)) DX5_spentWith_14 rfl (gIn.fx hF (c := 30) (n := 9) rfl (gIn_nI (by omega) (by omega))) rfl ?_
  refine x_aload_n 0 DX5_spentWith_15 rfl rfl ?_
  refine x_getr 3 (some 25) DX5_spentWith_16 (Or.inr F5_18) rfl rfl (hF.1 22 3 25 rfl) ?_
  refine x_iload_n 2 DX5_spentWith_19 rfl rfl ?_
  refine x_iald (v := (ι 25 (2 ^ rwI ι k))) (2 ^ rwI ι k) (nI_cl1 (by omega)) DX5_spentWith_20 rfl (gIn.fx hF (c := 25) (n := 256) rfl (gIn_nI hk8 (by omega))) rfl ?_
  refine x_iadd DX5_spentWith_21 ?_
  refine x_istore_n 3 (lv' := [some (vR 22), some (vI (nI k)), some (vI (nI (2 ^ rwI ι k))), some (vI ((ι 30 k) + (ι 25 (2 ^ rwI ι k)))), none]) DX5_spentWith_22 rfl ⟨nlt rfl, nlt rfl⟩ rfl ?_
  refine x_iload_n 1 DX5_spentWith_23 rfl rfl ?_
  refine x_iconst 1 DX5_spentWith_24 (by decide) ?_
  refine x_isub DX5_spentWith_25 ?_
  refine x_istore (lv' := [some (vR 22), some (vI (nI k)), some (vI (nI (2 ^ rwI ι k))), some (vI ((ι 30 k) + (ι 25 (2 ^ rwI ι k)))), some (vI ((nI k) - 1))]) DX5_spentWith_26 ⟨nlt rfl, nlt rfl⟩ rfl ?_
  have loop : ∀ (f g : Nat) (l : Int32), f ≤ k → g < 256 → swN ι f g l = swI ι k → gX K none 2 0 0 jX5_spentWith 28 [some (vR 22), some (vI (nI k)), some (vI (nI g)), some (vI l), some (vI ((nI f) + (-1)))] [] 0 0 ι ρ Λ (fun r2 a b c => r2 = (some (vI (swI ι k))) ∧ a = ι ∧ b = ρ ∧ c = Λ) := by
    intro f
    induction f with
    | zero =>
      intro g l hf hg he
      refine x_iload DX5_spentWith_28 rfl ?_
      refine x_if_lt 105 DX5_spentWith_30 (by decide) (fun c_30 => ?_) (fun c_30 => False.elim (c_30 (by decide)))
      refine x_iload_n 3 DX5_spentWith_105 rfl rfl ?_
      exact x_ireturn DX5_spentWith_106 rfl ⟨by rw [← he]; rfl, rfl, rfl, rfl⟩
    | succ f ih =>
      intro g l hf hg he
      rw [swN] at he
      have hr8 := two8 (hRw f (by omega)).2
      have hg2 := or8 hg hr8
      have ho8 := (hOp _ (hDn f (by omega)).2).2
      refine x_lv (lv' := [some (vR 22), some (vI (nI k)), some (vI (nI g)), some (vI l), some (vI (nI f))]) (lvS (lvS (lvS (lvS (lvI (pk_m1 f) rfl))))) ?_
      refine x_iload DX5_spentWith_28 rfl ?_
      refine x_if_lt 105 DX5_spentWith_30 (by decide) (fun c_30 => False.elim ((nI_pos (by omega)) c_30)) (fun c_30 => ?_)
      refine x_iload_n 2 DX5_spentWith_33 rfl rfl ?_
      refine x_iconst 1 DX5_spentWith_34 (by decide) ?_
      refine x_aload_n 0 DX5_spentWith_35 rfl rfl ?_
      refine x_getr 6 (some 28) DX5_spentWith_36 (Or.inr F5_27) rfl rfl (hF.1 22 6 28 rfl) ?_
      refine x_iload DX5_spentWith_39 rfl ?_
      refine x_iald (v := (nI (rwI ι f))) f (nI_cl1 (by omega)) DX5_spentWith_41 rfl (gIn.fx hF (c := 28) (n := 8) rfl (gIn_nI (by omega) (by omega))) ((hRw f (by omega)).1) ?_
      refine x_ishl DX5_spentWith_42 ?_
      rw [nI_shl (rwI ι f) (by have := (hRw f (by omega)).2; omega)]
      refine x_ior DX5_spentWith_43 ?_
      rw [nI_or]
      refine x_istore_n 2 (lv' := [some (vR 22), some (vI (nI k)), some (vI (nI (g ||| 2 ^ rwI ι f))), some (vI l), some (vI (nI f))]) DX5_spentWith_44 rfl ⟨nlt rfl, nlt rfl⟩ rfl ?_
      refine x_iload_n 2 DX5_spentWith_45 rfl rfl ?_
      refine x_aload_n 0 DX5_spentWith_46 rfl rfl ?_
      refine x_getr 5 (some 27) DX5_spentWith_47 (Or.inr F5_24) rfl rfl (hF.1 22 5 27 rfl) ?_
      refine x_aload_n 0 DX5_spentWith_50 rfl rfl ?_
      refine x_getr 7 (some 29) DX5_spentWith_51 (Or.inr F5_30) rfl rfl (hF.1 22 7 29 rfl) ?_
      refine x_iload DX5_spentWith_54 rfl ?_
      refine x_iald (v := (nI (dnI ι f))) f (nI_cl1 (by omega)) DX5_spentWith_56 rfl (gIn.fx hF (c := 29) (n := 9) rfl (gIn_nI (by omega) (by omega))) ((hDn f (by omega)).1) ?_
      refine x_iald (v := (nI (opR ι (dnI ι f)))) (dnI ι f) (nI_cl1 (by have := (hDn f (by omega)).2; omega)) DX5_spentWith_57 rfl (gIn.fx hF (c := 27) (n := 256) rfl (gIn_nI (hDn f (by omega)).2 (by have := (hDn f (by omega)).2; omega))) ((hOp _ (hDn f (by omega)).2).1) ?_
      refine x_iconst (-1) DX5_spentWith_58 (by decide) ?_
      refine x_ixor DX5_spentWith_59 ?_
      refine x_iand DX5_spentWith_60 ?_
      rw [nI_sub2 hg2 ho8]
      refine x_if_ne 105 DX5_spentWith_61 (by decide) (fun c_61 => ?_) (fun c_61 => ?_)
      · rw [nI_eq0 (by have : ((g ||| 2 ^ rwI ι f) &&& (255 ^^^ opR ι (dnI ι f))) < 256 := and_lt hg2; omega)] at c_61
        refine x_iload_n 3 DX5_spentWith_105 rfl rfl ?_
        exact x_ireturn DX5_spentWith_106 rfl ⟨by rw [if_neg (by grind)] at he; rw [← he], rfl, rfl, rfl⟩
      · rw [nI_eq0 (by have : ((g ||| 2 ^ rwI ι f) &&& (255 ^^^ opR ι (dnI ι f))) < 256 := and_lt hg2; omega)] at c_61
        refine x_aload_n 0 DX5_spentWith_64 rfl rfl ?_
        refine x_getr 2 (some 24) DX5_spentWith_65 (Or.inr F5_15) rfl rfl (hF.1 22 2 24 rfl) ?_
        refine x_iload_n 2 DX5_spentWith_68 rfl rfl ?_
        refine x_iald (v := (ι 24 (g ||| 2 ^ rwI ι f))) (g ||| 2 ^ rwI ι f) (nI_cl1 (by omega)) DX5_spentWith_69 rfl (gIn.fx hF (c := 24) (n := 256) rfl (gIn_nI hg2 (by omega))) rfl ?_
        refine x_aload_n 0 DX5_spentWith_70 rfl rfl ?_
        refine x_geti (v := (ι 22 13)) 13 DX5_spentWith_71 (Or.inl F5_40) rfl rfl rfl ?_
        refine x_icmp_le 80 DX5_spentWith_74 (by decide) (fun c_74 => ?_) (fun c_74 => ?_)
        · refine x_iload_n 3 DX5_spentWith_80 rfl rfl ?_
          refine x_aload_n 0 DX5_spentWith_81 rfl rfl ?_
          refine x_getr 8 (some 30) DX5_spentWith_82 (Or.inr F5_33) rfl rfl (hF.1 22 8 30 rfl) ?_
          refine x_iload DX5_spentWith_85 rfl ?_
          refine x_iald (v := (ι 30 f)) f (nI_cl1 (by omega)) DX5_spentWith_87 rfl (gIn.fx hF (c := 30) (n := 9) rfl (gIn_nI (by omega) (by omega))) rfl ?_
          refine x_aload_n 0 DX5_spentWith_88 rfl rfl ?_
          refine x_getr 3 (some 25) DX5_spentWith_89 (Or.inr F5_18) rfl rfl (hF.1 22 3 25 rfl) ?_
          refine x_iload_n 2 DX5_spentWith_92 rfl rfl ?_
          refine x_iald (v := (ι 25 (g ||| 2 ^ rwI ι f))) (g ||| 2 ^ rwI ι f) (nI_cl1 (by omega)) DX5_spentWith_93 rfl (gIn.fx hF (c := 25) (n := 256) rfl (gIn_nI hg2 (by omega))) rfl ?_
          refine x_iadd DX5_spentWith_94 ?_
          refine x_Se (av := [vI l, vI ((ι 30 f) + (ι 25 (g ||| 2 ^ rwI ι f)))]) (rest := []) (st' := [vI (imin l ((ι 30 f) + (ι 25 (g ||| 2 ^ rwI ι f))))]) 0 0 DX5_spentWith_95 L5_110 rfl rfl ⟨nle rfl, nle rfl, nle rfl⟩ ⟨rfl, nle rfl⟩ ⟨rfl, nle rfl⟩ (j_min K l ((ι 30 f) + (ι 25 (g ||| 2 ^ rwI ι f))) ι ρ Λ) rfl ?_
          refine x_istore_n 3 (lv' := [some (vR 22), some (vI (nI k)), some (vI (nI (g ||| 2 ^ rwI ι f))), some (vI (imin l ((ι 30 f) + (ι 25 (g ||| 2 ^ rwI ι f))))), some (vI (nI f))]) DX5_spentWith_98 rfl ⟨nlt rfl, nlt rfl⟩ rfl ?_
          refine x_iinc ((nI f) + (-1)) (lv' := [some (vR 22), some (vI (nI k)), some (vI (nI (g ||| 2 ^ rwI ι f))), some (vI (imin l ((ι 30 f) + (ι 25 (g ||| 2 ^ rwI ι f))))), some (vI ((nI f) + (-1)))]) DX5_spentWith_99 rfl rfl (nlt rfl) rfl ?_
          refine x_goto 28 DX5_spentWith_102 (by decide) ?_
          exact ih _ _ (by omega) hg2 (by rw [if_pos ⟨by assumption, by grind⟩] at he; exact he)
        · refine x_goto 105 DX5_spentWith_77 (by decide) ?_
          refine x_iload_n 3 DX5_spentWith_105 rfl rfl ?_
          exact x_ireturn DX5_spentWith_106 rfl ⟨by rw [if_neg (by grind)] at he; rw [← he], rfl, rfl, rfl⟩
  refine x_lv (lv' := [some (vR 22), some (vI (nI k)), some (vI (nI (2 ^ rwI ι k))), some (vI ((ι 30 k) + (ι 25 (2 ^ rwI ι k)))), some (vI ((nI k) + (-1)))]) (lvS (lvS (lvS (lvS (lvI (by grind) rfl))))) ?_
  exact loop k _ _ (Nat.le_refl _) hk8 rfl
theorem x_daysWith (K : gK) (k s : Nat) (ι : gIm) (ρ : gRm) (Λ : gLm) (hF : gFix ρ Λ) (hRw : ∀ j, j < k → ι 28 j = nI (rwI ι j) ∧ rwI ι j < 8) (hDn : ∀ j, j ≤ k → ι 29 j = nI (dnI ι j) ∧ dnI ι j < 256) (hOp : ∀ S, S < 256 → ι 27 S = nI (opR ι S) ∧ opR ι S < 256) (hk : k < 8) (hs : s < 8) : gCe K 3 0 0 jX5_daysWith [vR 22, vI (nI k), vI (nI s)] ι ρ Λ (some (vI (dwI ι k s))) ι ρ Λ := by
  refine gC_of (by decide) (nle rfl) ?_
  have hs8 := two8 hs
  have hok8 := (hOp _ (hDn k (by omega)).2).2
  refine x_iconst 1 DX5_daysWith_0 (by decide) ?_
  refine x_iload_n 2 DX5_daysWith_1 rfl rfl ?_
  refine x_ishl DX5_daysWith_2 ?_
  rw [nI_shl s (by omega)]
  refine x_istore_n 3 (lv' := [some (vR 22), some (vI (nI k)), some (vI (nI s)), some (vI (nI (2 ^ s))), none, none, none, none]) DX5_daysWith_3 rfl ⟨nlt rfl, nlt rfl⟩ rfl ?_
  refine x_aload_n 0 DX5_daysWith_4 rfl rfl ?_
  refine x_getr 0 (some 16) DX5_daysWith_5 (Or.inr F5_46) rfl rfl (hF.1 22 0 16 rfl) ?_
  refine x_getr 0 (some 17) DX5_daysWith_8 (Or.inr F5_77) rfl rfl (hF.1 16 0 17 rfl) ?_
  refine x_iload_n 2 DX5_daysWith_11 rfl rfl ?_
  refine x_iald (v := (ι 17 s)) s (nI_cl1 (by omega)) DX5_daysWith_12 rfl (gIn.fx hF (c := 17) (n := 12) rfl (gIn_nI (by omega) (by omega))) rfl ?_
  refine x_iconst 2 DX5_daysWith_13 (by decide) ?_
  refine x_icmp_ne 35 DX5_daysWith_14 (by decide) (fun c_14 => ?_) (fun c_14 => ?_)
  · refine x_iconst 0 DX5_daysWith_35 (by decide) ?_
    refine x_istore (lv' := [some (vR 22), some (vI (nI k)), some (vI (nI s)), some (vI (nI (2 ^ s))), some (vI 0), none, none, none]) DX5_daysWith_36 ⟨nlt rfl, nlt rfl⟩ rfl ?_
    refine x_aload_n 0 DX5_daysWith_38 rfl rfl ?_
    refine x_getr 8 (some 30) DX5_daysWith_39 (Or.inr F5_33) rfl rfl (hF.1 22 8 30 rfl) ?_
    refine x_iload_n 1 DX5_daysWith_42 rfl rfl ?_
    refine x_iald (v := (ι 30 k)) k (nI_cl1 (by omega)) DX5_daysWith_43 rfl (gIn.fx hF (c := 30) (n := 9) rfl (gIn_nI (by omega) (by omega))) rfl ?_
    refine x_aload_n 0 DX5_daysWith_44 rfl rfl ?_
    refine x_aload_n 0 DX5_daysWith_45 rfl rfl ?_
    refine x_getr 7 (some 29) DX5_daysWith_46 (Or.inr F5_30) rfl rfl (hF.1 22 7 29 rfl) ?_
    refine x_iload_n 1 DX5_daysWith_49 rfl rfl ?_
    refine x_iald (v := (nI (dnI ι k))) k (nI_cl1 (by omega)) DX5_daysWith_50 rfl (gIn.fx hF (c := 29) (n := 9) rfl (gIn_nI (by omega) (by omega))) ((hDn k (by omega)).1) ?_
    refine x_iload_n 3 DX5_daysWith_51 rfl rfl ?_
    refine x_iload DX5_daysWith_52 rfl ?_
    have g5 := x_restGrouped K (dnI ι k) (2 ^ s) 0 ι ρ Λ hF (hDn k (by omega)).2 hs8 (by omega)
    rw [nI_0] at g5
    have hd0 : d0I ι k s = 0 := by rw [d0I, if_neg (by assumption)]
    rw [show rgI ι (dnI ι k) (2 ^ s) 0 = rgI ι (dnI ι k) (2 ^ s) (d0I ι k s) by rw [hd0]] at g5
    refine x_Ve (ci := 5) (av := [vI (nI (dnI ι k)), vI (nI (2 ^ s)), vI 0]) (rest := [vI (ι 30 k)]) (st' := [vI (rgI ι (dnI ι k) (2 ^ s) (d0I ι k s)), vI (ι 30 k)]) 0 0 DX5_daysWith_54 L5_106 rfl rfl rfl rfl rfl ⟨nle rfl, nle rfl, nle rfl⟩ ⟨rfl, nle rfl⟩ ⟨rfl, nle rfl⟩ (g5) rfl ?_
    refine x_iadd DX5_daysWith_57 ?_
    refine x_istore (lv' := [some (vR 22), some (vI (nI k)), some (vI (nI s)), some (vI (nI (2 ^ s))), some (vI 0), some (vI ((ι 30 k) + (rgI ι (dnI ι k) (2 ^ s) (d0I ι k s)))), none, none]) DX5_daysWith_58 ⟨nlt rfl, nlt rfl⟩ rfl ?_
    refine x_iload_n 1 DX5_daysWith_60 rfl rfl ?_
    refine x_iconst 1 DX5_daysWith_61 (by decide) ?_
    refine x_isub DX5_daysWith_62 ?_
    refine x_istore (lv' := [some (vR 22), some (vI (nI k)), some (vI (nI s)), some (vI (nI (2 ^ s))), some (vI 0), some (vI ((ι 30 k) + (rgI ι (dnI ι k) (2 ^ s) (d0I ι k s)))), some (vI ((nI k) - 1)), none]) DX5_daysWith_63 ⟨nlt rfl, nlt rfl⟩ rfl ?_
    have loop : ∀ (f g : Nat) (l : Int32), f ≤ k → g < 256 → dwN ι f g l = dwI ι k s → gX K none 3 0 0 jX5_daysWith 65 [some (vR 22), some (vI (nI k)), some (vI (nI s)), some (vI (nI g)), none, some (vI l), some (vI ((nI f) + (-1))), none] [] 0 0 ι ρ Λ (fun r2 a b c => r2 = (some (vI (dwI ι k s))) ∧ a = ι ∧ b = ρ ∧ c = Λ) := by
      intro f
      induction f with
      | zero =>
        intro g l hf hg he
        refine x_iload DX5_daysWith_65 rfl ?_
        refine x_if_lt 147 DX5_daysWith_67 (by decide) (fun c_67 => ?_) (fun c_67 => False.elim (c_67 (by decide)))
        refine x_iload DX5_daysWith_147 rfl ?_
        exact x_ireturn DX5_daysWith_149 rfl ⟨by rw [← he]; rfl, rfl, rfl, rfl⟩
      | succ f ih =>
        intro g l hf hg he
        rw [dwN] at he
        have hr8 := two8 (hRw f (by omega)).2
        have hg2 := or8 hg hr8
        have ho8 := (hOp _ (hDn f (by omega)).2).2
        refine x_lv (lv' := [some (vR 22), some (vI (nI k)), some (vI (nI s)), some (vI (nI g)), none, some (vI l), some (vI (nI f)), none]) (lvS (lvS (lvS (lvS (lvS (lvS (lvI (pk_m1 f) rfl))))))) ?_
        refine x_iload DX5_daysWith_65 rfl ?_
        refine x_if_lt 147 DX5_daysWith_67 (by decide) (fun c_67 => False.elim ((nI_pos (by omega)) c_67)) (fun c_67 => ?_)
        refine x_iload_n 3 DX5_daysWith_70 rfl rfl ?_
        refine x_iconst 1 DX5_daysWith_71 (by decide) ?_
        refine x_aload_n 0 DX5_daysWith_72 rfl rfl ?_
        refine x_getr 6 (some 28) DX5_daysWith_73 (Or.inr F5_27) rfl rfl (hF.1 22 6 28 rfl) ?_
        refine x_iload DX5_daysWith_76 rfl ?_
        refine x_iald (v := (nI (rwI ι f))) f (nI_cl1 (by omega)) DX5_daysWith_78 rfl (gIn.fx hF (c := 28) (n := 8) rfl (gIn_nI (by omega) (by omega))) ((hRw f (by omega)).1) ?_
        refine x_ishl DX5_daysWith_79 ?_
        rw [nI_shl (rwI ι f) (by have := (hRw f (by omega)).2; omega)]
        refine x_ior DX5_daysWith_80 ?_
        rw [nI_or]
        refine x_istore_n 3 (lv' := [some (vR 22), some (vI (nI k)), some (vI (nI s)), some (vI (nI (g ||| 2 ^ rwI ι f))), none, some (vI l), some (vI (nI f)), none]) DX5_daysWith_81 rfl ⟨nlt rfl, nlt rfl⟩ rfl ?_
        refine x_aload_n 0 DX5_daysWith_82 rfl rfl ?_
        refine x_getr 5 (some 27) DX5_daysWith_83 (Or.inr F5_24) rfl rfl (hF.1 22 5 27 rfl) ?_
        refine x_aload_n 0 DX5_daysWith_86 rfl rfl ?_
        refine x_getr 7 (some 29) DX5_daysWith_87 (Or.inr F5_30) rfl rfl (hF.1 22 7 29 rfl) ?_
        refine x_iload DX5_daysWith_90 rfl ?_
        refine x_iald (v := (nI (dnI ι f))) f (nI_cl1 (by omega)) DX5_daysWith_92 rfl (gIn.fx hF (c := 29) (n := 9) rfl (gIn_nI (by omega) (by omega))) ((hDn f (by omega)).1) ?_
        refine x_iald (v := (nI (opR ι (dnI ι f)))) (dnI ι f) (nI_cl1 (by have := (hDn f (by omega)).2; omega)) DX5_daysWith_93 rfl (gIn.fx hF (c := 27) (n := 256) rfl (gIn_nI (hDn f (by omega)).2 (by have := (hDn f (by omega)).2; omega))) ((hOp _ (hDn f (by omega)).2).1) ?_
        refine x_istore (lv' := [some (vR 22), some (vI (nI k)), some (vI (nI s)), some (vI (nI (g ||| 2 ^ rwI ι f))), none, some (vI l), some (vI (nI f)), some (vI (nI (opR ι (dnI ι f))))]) DX5_daysWith_94 ⟨nlt rfl, nlt rfl⟩ rfl ?_
        refine x_iload_n 3 DX5_daysWith_96 rfl rfl ?_
        refine x_iload DX5_daysWith_97 rfl ?_
        refine x_iconst (-1) DX5_daysWith_99 (by decide) ?_
        refine x_ixor DX5_daysWith_100 ?_
        refine x_iand DX5_daysWith_101 ?_
        rw [nI_sub2 hg2 ho8]
        refine x_if_eq 108 DX5_daysWith_102 (by decide) (fun c_102 => ?_) (fun c_102 => ?_)
        · rw [nI_eq0 (by have : ((g ||| 2 ^ rwI ι f) &&& (255 ^^^ opR ι (dnI ι f))) < 256 := and_lt hg2; omega)] at c_102
          refine x_iload DX5_daysWith_108 rfl ?_
          refine x_aload_n 0 DX5_daysWith_110 rfl rfl ?_
          refine x_getr 8 (some 30) DX5_daysWith_111 (Or.inr F5_33) rfl rfl (hF.1 22 8 30 rfl) ?_
          refine x_iload DX5_daysWith_114 rfl ?_
          refine x_iald (v := (ι 30 f)) f (nI_cl1 (by omega)) DX5_daysWith_116 rfl (gIn.fx hF (c := 30) (n := 9) rfl (gIn_nI (by omega) (by omega))) rfl ?_
          refine x_aload_n 0 DX5_daysWith_117 rfl rfl ?_
          refine x_aload_n 0 DX5_daysWith_118 rfl rfl ?_
          refine x_getr 7 (some 29) DX5_daysWith_119 (Or.inr F5_30) rfl rfl (hF.1 22 7 29 rfl) ?_
          refine x_iload DX5_daysWith_122 rfl ?_
          refine x_iald (v := (nI (dnI ι f))) f (nI_cl1 (by omega)) DX5_daysWith_124 rfl (gIn.fx hF (c := 29) (n := 9) rfl (gIn_nI (by omega) (by omega))) ((hDn f (by omega)).1) ?_
          refine x_iload_n 3 DX5_daysWith_125 rfl rfl ?_
          refine x_iload DX5_daysWith_126 rfl ?_
          refine x_iload_n 3 DX5_daysWith_128 rfl rfl ?_
          refine x_iconst (-1) DX5_daysWith_129 (by decide) ?_
          refine x_ixor DX5_daysWith_130 ?_
          refine x_iand DX5_daysWith_131 ?_
          rw [nI_sub2 ho8 hg2]
          refine x_Ve (ci := 5) (av := [vI (nI (dnI ι f)), vI (nI (g ||| 2 ^ rwI ι f)), vI (nI (opR ι (dnI ι f) &&& (255 ^^^ (g ||| 2 ^ rwI ι f))))]) (rest := [vI (ι 30 f), vI l]) (st' := [vI (rgI ι (dnI ι f) (g ||| 2 ^ rwI ι f) (opR ι (dnI ι f) &&& (255 ^^^ (g ||| 2 ^ rwI ι f)))), vI (ι 30 f), vI l]) 0 0 DX5_daysWith_132 L5_106 rfl rfl rfl rfl rfl ⟨nle rfl, nle rfl, nle rfl⟩ ⟨rfl, nle rfl⟩ ⟨rfl, nle rfl⟩ (x_restGrouped K (dnI ι f) (g ||| 2 ^ rwI ι f) (opR ι (dnI ι f) &&& (255 ^^^ (g ||| 2 ^ rwI ι f))) ι ρ Λ hF (hDn f (by omega)).2 hg2 (and_lt ho8)) rfl ?_
          refine x_iadd DX5_daysWith_135 ?_
          refine x_Se (av := [vI l, vI ((ι 30 f) + (rgI ι (dnI ι f) (g ||| 2 ^ rwI ι f) (opR ι (dnI ι f) &&& (255 ^^^ (g ||| 2 ^ rwI ι f)))))]) (rest := []) (st' := [vI (imin l ((ι 30 f) + (rgI ι (dnI ι f) (g ||| 2 ^ rwI ι f) (opR ι (dnI ι f) &&& (255 ^^^ (g ||| 2 ^ rwI ι f))))))]) 0 0 DX5_daysWith_136 L5_110 rfl rfl ⟨nle rfl, nle rfl, nle rfl⟩ ⟨rfl, nle rfl⟩ ⟨rfl, nle rfl⟩ (j_min K l ((ι 30 f) + (rgI ι (dnI ι f) (g ||| 2 ^ rwI ι f) (opR ι (dnI ι f) &&& (255 ^^^ (g ||| 2 ^ rwI ι f))))) ι ρ Λ) rfl ?_
          refine x_istore (lv' := [some (vR 22), some (vI (nI k)), some (vI (nI s)), some (vI (nI (g ||| 2 ^ rwI ι f))), none, some (vI (imin l ((ι 30 f) + (rgI ι (dnI ι f) (g ||| 2 ^ rwI ι f) (opR ι (dnI ι f) &&& (255 ^^^ (g ||| 2 ^ rwI ι f))))))), some (vI (nI f)), some (vI (nI (opR ι (dnI ι f))))]) DX5_daysWith_139 ⟨nlt rfl, nlt rfl⟩ rfl ?_
          refine x_iinc ((nI f) + (-1)) (lv' := [some (vR 22), some (vI (nI k)), some (vI (nI s)), some (vI (nI (g ||| 2 ^ rwI ι f))), none, some (vI (imin l ((ι 30 f) + (rgI ι (dnI ι f) (g ||| 2 ^ rwI ι f) (opR ι (dnI ι f) &&& (255 ^^^ (g ||| 2 ^ rwI ι f))))))), some (vI ((nI f) + (-1))), some (vI (nI (opR ι (dnI ι f))))]) DX5_daysWith_141 rfl rfl (nlt rfl) rfl ?_
          refine x_goto 65 DX5_daysWith_144 (by decide) ?_
          refine x_less (lv' := [some (vR 22), some (vI (nI k)), some (vI (nI s)), some (vI (nI (g ||| 2 ^ rwI ι f))), none, some (vI (imin l ((ι 30 f) + (rgI ι (dnI ι f) (g ||| 2 ^ rwI ι f) (opR ι (dnI ι f) &&& (255 ^^^ (g ||| 2 ^ rwI ι f))))))), some (vI ((nI f) + (-1))), none]) (less_ok (m := [true, true, true, true, false, true, true, false]) rfl) ?_
          exact ih _ _ (by omega) hg2 (by rw [if_pos (by assumption)] at he; exact he)
        · rw [nI_eq0 (by have : ((g ||| 2 ^ rwI ι f) &&& (255 ^^^ opR ι (dnI ι f))) < 256 := and_lt hg2; omega)] at c_102
          refine x_goto 147 DX5_daysWith_105 (by decide) ?_
          refine x_iload DX5_daysWith_147 rfl ?_
          exact x_ireturn DX5_daysWith_149 rfl ⟨by rw [if_neg (by assumption)] at he; rw [← he], rfl, rfl, rfl⟩
    refine x_less (lv' := [some (vR 22), some (vI (nI k)), some (vI (nI s)), some (vI (nI (2 ^ s))), none, some (vI ((ι 30 k) + (rgI ι (dnI ι k) (2 ^ s) (d0I ι k s)))), some (vI ((nI k) - 1)), none]) (less_ok (m := [true, true, true, true, false, true, true, false]) rfl) ?_
    refine x_lv (lv' := [some (vR 22), some (vI (nI k)), some (vI (nI s)), some (vI (nI (2 ^ s))), none, some (vI ((ι 30 k) + (rgI ι (dnI ι k) (2 ^ s) (d0I ι k s)))), some (vI ((nI k) + (-1))), none]) (lvS (lvS (lvS (lvS (lvS (lvS (lvI (by grind) rfl))))))) ?_
    exact loop k _ _ (Nat.le_refl _) hs8 rfl
  · refine x_aload_n 0 DX5_daysWith_17 rfl rfl ?_
    refine x_getr 5 (some 27) DX5_daysWith_18 (Or.inr F5_24) rfl rfl (hF.1 22 5 27 rfl) ?_
    refine x_aload_n 0 DX5_daysWith_21 rfl rfl ?_
    refine x_getr 7 (some 29) DX5_daysWith_22 (Or.inr F5_30) rfl rfl (hF.1 22 7 29 rfl) ?_
    refine x_iload_n 1 DX5_daysWith_25 rfl rfl ?_
    refine x_iald (v := (nI (dnI ι k))) k (nI_cl1 (by omega)) DX5_daysWith_26 rfl (gIn.fx hF (c := 29) (n := 9) rfl (gIn_nI (by omega) (by omega))) ((hDn k (by omega)).1) ?_
    refine x_iald (v := (nI (opR ι (dnI ι k)))) (dnI ι k) (nI_cl1 (by have := (hDn k (by omega)).2; omega)) DX5_daysWith_27 rfl (gIn.fx hF (c := 27) (n := 256) rfl (gIn_nI (hDn k (by omega)).2 (by have := (hDn k (by omega)).2; omega))) ((hOp _ (hDn k (by omega)).2).1) ?_
    refine x_iload_n 3 DX5_daysWith_28 rfl rfl ?_
    refine x_iconst (-1) DX5_daysWith_29 (by decide) ?_
    refine x_ixor DX5_daysWith_30 ?_
    refine x_iand DX5_daysWith_31 ?_
    rw [nI_sub2 hok8 hs8]
    refine x_goto 36 DX5_daysWith_32 (by decide) ?_
    refine x_istore (lv' := [some (vR 22), some (vI (nI k)), some (vI (nI s)), some (vI (nI (2 ^ s))), some (vI (nI (opR ι (dnI ι k) &&& (255 ^^^ 2 ^ s)))), none, none, none]) DX5_daysWith_36 ⟨nlt rfl, nlt rfl⟩ rfl ?_
    refine x_aload_n 0 DX5_daysWith_38 rfl rfl ?_
    refine x_getr 8 (some 30) DX5_daysWith_39 (Or.inr F5_33) rfl rfl (hF.1 22 8 30 rfl) ?_
    refine x_iload_n 1 DX5_daysWith_42 rfl rfl ?_
    refine x_iald (v := (ι 30 k)) k (nI_cl1 (by omega)) DX5_daysWith_43 rfl (gIn.fx hF (c := 30) (n := 9) rfl (gIn_nI (by omega) (by omega))) rfl ?_
    refine x_aload_n 0 DX5_daysWith_44 rfl rfl ?_
    refine x_aload_n 0 DX5_daysWith_45 rfl rfl ?_
    refine x_getr 7 (some 29) DX5_daysWith_46 (Or.inr F5_30) rfl rfl (hF.1 22 7 29 rfl) ?_
    refine x_iload_n 1 DX5_daysWith_49 rfl rfl ?_
    refine x_iald (v := (nI (dnI ι k))) k (nI_cl1 (by omega)) DX5_daysWith_50 rfl (gIn.fx hF (c := 29) (n := 9) rfl (gIn_nI (by omega) (by omega))) ((hDn k (by omega)).1) ?_
    refine x_iload_n 3 DX5_daysWith_51 rfl rfl ?_
    refine x_iload DX5_daysWith_52 rfl ?_
    have g5 := x_restGrouped K (dnI ι k) (2 ^ s) (opR ι (dnI ι k) &&& (255 ^^^ 2 ^ s)) ι ρ Λ hF (hDn k (by omega)).2 hs8 (and_lt hok8)
    have hd0 : d0I ι k s = (opR ι (dnI ι k) &&& (255 ^^^ 2 ^ s)) := by rw [d0I, if_pos (by assumption)]
    rw [show rgI ι (dnI ι k) (2 ^ s) (opR ι (dnI ι k) &&& (255 ^^^ 2 ^ s)) = rgI ι (dnI ι k) (2 ^ s) (d0I ι k s) by rw [hd0]] at g5
    refine x_Ve (ci := 5) (av := [vI (nI (dnI ι k)), vI (nI (2 ^ s)), vI (nI (opR ι (dnI ι k) &&& (255 ^^^ 2 ^ s)))]) (rest := [vI (ι 30 k)]) (st' := [vI (rgI ι (dnI ι k) (2 ^ s) (d0I ι k s)), vI (ι 30 k)]) 0 0 DX5_daysWith_54 L5_106 rfl rfl rfl rfl rfl ⟨nle rfl, nle rfl, nle rfl⟩ ⟨rfl, nle rfl⟩ ⟨rfl, nle rfl⟩ (g5) rfl ?_
    refine x_iadd DX5_daysWith_57 ?_
    refine x_istore (lv' := [some (vR 22), some (vI (nI k)), some (vI (nI s)), some (vI (nI (2 ^ s))), some (vI (nI (opR ι (dnI ι k) &&& (255 ^^^ 2 ^ s)))), some (vI ((ι 30 k) + (rgI ι (dnI ι k) (2 ^ s) (d0I ι k s)))), none, none]) DX5_daysWith_58 ⟨nlt rfl, nlt rfl⟩ rfl ?_
    refine x_iload_n 1 DX5_daysWith_60 rfl rfl ?_
    refine x_iconst 1 DX5_daysWith_61 (by decide) ?_
    refine x_isub DX5_daysWith_62 ?_
    refine x_istore (lv' := [some (vR 22), some (vI (nI k)), some (vI (nI s)), some (vI (nI (2 ^ s))), some (vI (nI (opR ι (dnI ι k) &&& (255 ^^^ 2 ^ s)))), some (vI ((ι 30 k) + (rgI ι (dnI ι k) (2 ^ s) (d0I ι k s)))), some (vI ((nI k) - 1)), none]) DX5_daysWith_63 ⟨nlt rfl, nlt rfl⟩ rfl ?_
    have loop : ∀ (f g : Nat) (l : Int32), f ≤ k → g < 256 → dwN ι f g l = dwI ι k s → gX K none 3 0 0 jX5_daysWith 65 [some (vR 22), some (vI (nI k)), some (vI (nI s)), some (vI (nI g)), none, some (vI l), some (vI ((nI f) + (-1))), none] [] 0 0 ι ρ Λ (fun r2 a b c => r2 = (some (vI (dwI ι k s))) ∧ a = ι ∧ b = ρ ∧ c = Λ) := by
      intro f
      induction f with
      | zero =>
        intro g l hf hg he
        refine x_iload DX5_daysWith_65 rfl ?_
        refine x_if_lt 147 DX5_daysWith_67 (by decide) (fun c_67 => ?_) (fun c_67 => False.elim (c_67 (by decide)))
        refine x_iload DX5_daysWith_147 rfl ?_
        exact x_ireturn DX5_daysWith_149 rfl ⟨by rw [← he]; rfl, rfl, rfl, rfl⟩
      | succ f ih =>
        intro g l hf hg he
        rw [dwN] at he
        have hr8 := two8 (hRw f (by omega)).2
        have hg2 := or8 hg hr8
        have ho8 := (hOp _ (hDn f (by omega)).2).2
        refine x_lv (lv' := [some (vR 22), some (vI (nI k)), some (vI (nI s)), some (vI (nI g)), none, some (vI l), some (vI (nI f)), none]) (lvS (lvS (lvS (lvS (lvS (lvS (lvI (pk_m1 f) rfl))))))) ?_
        refine x_iload DX5_daysWith_65 rfl ?_
        refine x_if_lt 147 DX5_daysWith_67 (by decide) (fun c_67 => False.elim ((nI_pos (by omega)) c_67)) (fun c_67 => ?_)
        refine x_iload_n 3 DX5_daysWith_70 rfl rfl ?_
        refine x_iconst 1 DX5_daysWith_71 (by decide) ?_
        refine x_aload_n 0 DX5_daysWith_72 rfl rfl ?_
        refine x_getr 6 (some 28) DX5_daysWith_73 (Or.inr F5_27) rfl rfl (hF.1 22 6 28 rfl) ?_
        refine x_iload DX5_daysWith_76 rfl ?_
        refine x_iald (v := (nI (rwI ι f))) f (nI_cl1 (by omega)) DX5_daysWith_78 rfl (gIn.fx hF (c := 28) (n := 8) rfl (gIn_nI (by omega) (by omega))) ((hRw f (by omega)).1) ?_
        refine x_ishl DX5_daysWith_79 ?_
        rw [nI_shl (rwI ι f) (by have := (hRw f (by omega)).2; omega)]
        refine x_ior DX5_daysWith_80 ?_
        rw [nI_or]
        refine x_istore_n 3 (lv' := [some (vR 22), some (vI (nI k)), some (vI (nI s)), some (vI (nI (g ||| 2 ^ rwI ι f))), none, some (vI l), some (vI (nI f)), none]) DX5_daysWith_81 rfl ⟨nlt rfl, nlt rfl⟩ rfl ?_
        refine x_aload_n 0 DX5_daysWith_82 rfl rfl ?_
        refine x_getr 5 (some 27) DX5_daysWith_83 (Or.inr F5_24) rfl rfl (hF.1 22 5 27 rfl) ?_
        refine x_aload_n 0 DX5_daysWith_86 rfl rfl ?_
        refine x_getr 7 (some 29) DX5_daysWith_87 (Or.inr F5_30) rfl rfl (hF.1 22 7 29 rfl) ?_
        refine x_iload DX5_daysWith_90 rfl ?_
        refine x_iald (v := (nI (dnI ι f))) f (nI_cl1 (by omega)) DX5_daysWith_92 rfl (gIn.fx hF (c := 29) (n := 9) rfl (gIn_nI (by omega) (by omega))) ((hDn f (by omega)).1) ?_
        refine x_iald (v := (nI (opR ι (dnI ι f)))) (dnI ι f) (nI_cl1 (by have := (hDn f (by omega)).2; omega)) DX5_daysWith_93 rfl (gIn.fx hF (c := 27) (n := 256) rfl (gIn_nI (hDn f (by omega)).2 (by have := (hDn f (by omega)).2; omega))) ((hOp _ (hDn f (by omega)).2).1) ?_
        refine x_istore (lv' := [some (vR 22), some (vI (nI k)), some (vI (nI s)), some (vI (nI (g ||| 2 ^ rwI ι f))), none, some (vI l), some (vI (nI f)), some (vI (nI (opR ι (dnI ι f))))]) DX5_daysWith_94 ⟨nlt rfl, nlt rfl⟩ rfl ?_
        refine x_iload_n 3 DX5_daysWith_96 rfl rfl ?_
        refine x_iload DX5_daysWith_97 rfl ?_
        refine x_iconst (-1) DX5_daysWith_99 (by decide) ?_
        refine x_ixor DX5_daysWith_100 ?_
        refine x_iand DX5_daysWith_101 ?_
        rw [nI_sub2 hg2 ho8]
        refine x_if_eq 108 DX5_daysWith_102 (by decide) (fun c_102 => ?_) (fun c_102 => ?_)
        · rw [nI_eq0 (by have : ((g ||| 2 ^ rwI ι f) &&& (255 ^^^ opR ι (dnI ι f))) < 256 := and_lt hg2; omega)] at c_102
          refine x_iload DX5_daysWith_108 rfl ?_
          refine x_aload_n 0 DX5_daysWith_110 rfl rfl ?_
          refine x_getr 8 (some 30) DX5_daysWith_111 (Or.inr F5_33) rfl rfl (hF.1 22 8 30 rfl) ?_
          refine x_iload DX5_daysWith_114 rfl ?_
          refine x_iald (v := (ι 30 f)) f (nI_cl1 (by omega)) DX5_daysWith_116 rfl (gIn.fx hF (c := 30) (n := 9) rfl (gIn_nI (by omega) (by omega))) rfl ?_
          refine x_aload_n 0 DX5_daysWith_117 rfl rfl ?_
          refine x_aload_n 0 DX5_daysWith_118 rfl rfl ?_
          refine x_getr 7 (some 29) DX5_daysWith_119 (Or.inr F5_30) rfl rfl (hF.1 22 7 29 rfl) ?_
          refine x_iload DX5_daysWith_122 rfl ?_
          refine x_iald (v := (nI (dnI ι f))) f (nI_cl1 (by omega)) DX5_daysWith_124 rfl (gIn.fx hF (c := 29) (n := 9) rfl (gIn_nI (by omega) (by omega))) ((hDn f (by omega)).1) ?_
          refine x_iload_n 3 DX5_daysWith_125 rfl rfl ?_
          refine x_iload DX5_daysWith_126 rfl ?_
          refine x_iload_n 3 DX5_daysWith_128 rfl rfl ?_
          refine x_iconst (-1) DX5_daysWith_129 (by decide) ?_
          refine x_ixor DX5_daysWith_130 ?_
          refine x_iand DX5_daysWith_131 ?_
          rw [nI_sub2 ho8 hg2]
          refine x_Ve (ci := 5) (av := [vI (nI (dnI ι f)), vI (nI (g ||| 2 ^ rwI ι f)), vI (nI (opR ι (dnI ι f) &&& (255 ^^^ (g ||| 2 ^ rwI ι f))))]) (rest := [vI (ι 30 f), vI l]) (st' := [vI (rgI ι (dnI ι f) (g ||| 2 ^ rwI ι f) (opR ι (dnI ι f) &&& (255 ^^^ (g ||| 2 ^ rwI ι f)))), vI (ι 30 f), vI l]) 0 0 DX5_daysWith_132 L5_106 rfl rfl rfl rfl rfl ⟨nle rfl, nle rfl, nle rfl⟩ ⟨rfl, nle rfl⟩ ⟨rfl, nle rfl⟩ (x_restGrouped K (dnI ι f) (g ||| 2 ^ rwI ι f) (opR ι (dnI ι f) &&& (255 ^^^ (g ||| 2 ^ rwI ι f))) ι ρ Λ hF (hDn f (by omega)).2 hg2 (and_lt ho8)) rfl ?_
          refine x_iadd DX5_daysWith_135 ?_
          refine x_Se (av := [vI l, vI ((ι 30 f) + (rgI ι (dnI ι f) (g ||| 2 ^ rwI ι f) (opR ι (dnI ι f) &&& (255 ^^^ (g ||| 2 ^ rwI ι f)))))]) (rest := []) (st' := [vI (imin l ((ι 30 f) + (rgI ι (dnI ι f) (g ||| 2 ^ rwI ι f) (opR ι (dnI ι f) &&& (255 ^^^ (g ||| 2 ^ rwI ι f))))))]) 0 0 DX5_daysWith_136 L5_110 rfl rfl ⟨nle rfl, nle rfl, nle rfl⟩ ⟨rfl, nle rfl⟩ ⟨rfl, nle rfl⟩ (j_min K l ((ι 30 f) + (rgI ι (dnI ι f) (g ||| 2 ^ rwI ι f) (opR ι (dnI ι f) &&& (255 ^^^ (g ||| 2 ^ rwI ι f))))) ι ρ Λ) rfl ?_
          refine x_istore (lv' := [some (vR 22), some (vI (nI k)), some (vI (nI s)), some (vI (nI (g ||| 2 ^ rwI ι f))), none, some (vI (imin l ((ι 30 f) + (rgI ι (dnI ι f) (g ||| 2 ^ rwI ι f) (opR ι (dnI ι f) &&& (255 ^^^ (g ||| 2 ^ rwI ι f))))))), some (vI (nI f)), some (vI (nI (opR ι (dnI ι f))))]) DX5_daysWith_139 ⟨nlt rfl, nlt rfl⟩ rfl ?_
          refine x_iinc ((nI f) + (-1)) (lv' := [some (vR 22), some (vI (nI k)), some (vI (nI s)), some (vI (nI (g ||| 2 ^ rwI ι f))), none, some (vI (imin l ((ι 30 f) + (rgI ι (dnI ι f) (g ||| 2 ^ rwI ι f) (opR ι (dnI ι f) &&& (255 ^^^ (g ||| 2 ^ rwI ι f))))))), some (vI ((nI f) + (-1))), some (vI (nI (opR ι (dnI ι f))))]) DX5_daysWith_141 rfl rfl (nlt rfl) rfl ?_
          refine x_goto 65 DX5_daysWith_144 (by decide) ?_
          refine x_less (lv' := [some (vR 22), some (vI (nI k)), some (vI (nI s)), some (vI (nI (g ||| 2 ^ rwI ι f))), none, some (vI (imin l ((ι 30 f) + (rgI ι (dnI ι f) (g ||| 2 ^ rwI ι f) (opR ι (dnI ι f) &&& (255 ^^^ (g ||| 2 ^ rwI ι f))))))), some (vI ((nI f) + (-1))), none]) (less_ok (m := [true, true, true, true, false, true, true, false]) rfl) ?_
          exact ih _ _ (by omega) hg2 (by rw [if_pos (by assumption)] at he; exact he)
        · rw [nI_eq0 (by have : ((g ||| 2 ^ rwI ι f) &&& (255 ^^^ opR ι (dnI ι f))) < 256 := and_lt hg2; omega)] at c_102
          refine x_goto 147 DX5_daysWith_105 (by decide) ?_
          refine x_iload DX5_daysWith_147 rfl ?_
          exact x_ireturn DX5_daysWith_149 rfl ⟨by rw [if_neg (by assumption)] at he; rw [← he], rfl, rfl, rfl⟩
    refine x_less (lv' := [some (vR 22), some (vI (nI k)), some (vI (nI s)), some (vI (nI (2 ^ s))), none, some (vI ((ι 30 k) + (rgI ι (dnI ι k) (2 ^ s) (d0I ι k s)))), some (vI ((nI k) - 1)), none]) (less_ok (m := [true, true, true, true, false, true, true, false]) rfl) ?_
    refine x_lv (lv' := [some (vR 22), some (vI (nI k)), some (vI (nI s)), some (vI (nI (2 ^ s))), none, some (vI ((ι 30 k) + (rgI ι (dnI ι k) (2 ^ s) (d0I ι k s)))), some (vI ((nI k) + (-1))), none]) (lvS (lvS (lvS (lvS (lvS (lvS (lvI (by grind) rfl))))))) ?_
    exact loop k _ _ (Nat.le_refl _) hs8 rfl
