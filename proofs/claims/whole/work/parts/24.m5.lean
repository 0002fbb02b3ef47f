/-! the model, V: the bridge -/
theorem m_hang (K : gK) (r p : Int32) (ι : gIm) (ρ : gRm) (Λ : gLm) (hF : gFix ρ Λ) (nr : Nat) (hR : ι 40 5 = nI nr) (hr : nr ≤ 200) : gCe K 3 0 0 jX12_hang [vR 40, vI r, vI p] ι ρ Λ (some (vI (rs (cHang r p (nI nr) (ι 52 r.toNatClampNeg) (sFree (ι 58 r.toNatClampNeg) (ι 54 r.toNatClampNeg) (ι 40 2)) (ι 59 p.toNatClampNeg)) 1))) (rsM (cHang r p (nI nr) (ι 52 r.toNatClampNeg) (sFree (ι 58 r.toNatClampNeg) (ι 54 r.toNatClampNeg) (ι 40 2)) (ι 59 p.toNatClampNeg)) 41 ι (mHang ι r p)) ρ Λ := by
  refine gC_of (by decide) (nle rfl) ?_
  refine x_aload_n 0 DX12_hang_0 rfl rfl ?_
  refine x_iload_n 1 DX12_hang_1 rfl rfl ?_
  refine x_Ve (ci := 12) (av := [vI r]) (rest := []) (st' := [vI (b2i (0 ≤ r ∧ r < ι 40 5))]) 0 0 DX12_hang_2 L12_185 rfl rfl rfl rfl rfl ⟨nle rfl, nle rfl, nle rfl⟩ ⟨rfl, nle rfl⟩ ⟨rfl, nle rfl⟩ (m_isRope K r ι ρ Λ hF) rfl ?_
  refine x_if_eq_b 17 DX12_hang_5 (by decide) (fun c_5 => ?_) (fun c_5 => ?_)
  · refine x_aload_n 0 DX12_hang_17 rfl rfl ?_
    refine x_iconst (-1) DX12_hang_18 (by decide) ?_
    refine x_Ve (ci := 12) (av := [vI (-1)]) (rest := []) (st' := [vI (-1)]) 0 0 DX12_hang_19 L12_120 rfl rfl rfl rfl rfl ⟨nle rfl, nle rfl, nle rfl⟩ ⟨rfl, nle rfl⟩ ⟨rfl, nle rfl⟩ (m_refuse K (-1) ι ρ Λ hF ⟨by decide, by decide⟩) rfl ?_
    refine x_nmι (fun ι19 e_ι19 => ?_)
    exact x_ireturn DX12_hang_22 rfl ⟨by grind [cHang, rs, sFree], by grind [cHang, rsM, sFree, mHang], rfl, rfl⟩
  · refine x_iload_n 2 DX12_hang_8 rfl rfl ?_
    refine x_bipush 6 DX12_hang_9 (by decide) ?_
    refine x_Se (av := [vI p, vI 6]) (rest := []) (st' := [vI (b2i (0 ≤ p ∧ p < 6))]) 0 0 DX12_hang_11 L12_124 rfl rfl ⟨nle rfl, nle rfl, nle rfl⟩ ⟨rfl, nle rfl⟩ ⟨rfl, nle rfl⟩ (m_isIn K p 6 ι ρ Λ) rfl ?_
    refine x_if_ne_b 23 DX12_hang_14 (by decide) (fun c_14 => ?_) (fun c_14 => ?_)
    · refine x_aload_n 0 DX12_hang_23 rfl rfl ?_
      refine x_getr 19 (some 52) DX12_hang_24 (Or.inr F12_44) rfl rfl (hF.1 40 19 52 rfl) ?_
      refine x_iload_n 1 DX12_hang_27 rfl rfl ?_
      refine x_iald (v := (ι 52 r.toNatClampNeg)) r.toNatClampNeg rfl DX12_hang_28 rfl (gIn.fx hF (c := 52) (n := 200) rfl (gIn_nn (m := 200) (k := r) (n := nr) (by rw [← hR]; assumption) hr (by omega))) rfl ?_
      refine x_iconst 2 DX12_hang_29 (by decide) ?_
      refine x_icmp_eq 40 DX12_hang_30 (by decide) (fun c_30 => ?_) (fun c_30 => ?_)
      · refine x_aload_n 0 DX12_hang_40 rfl rfl ?_
        refine x_iload_n 1 DX12_hang_41 rfl rfl ?_
        refine x_Ve (ci := 12) (av := [vI r]) (rest := []) (st' := [vI (sFree (ι 58 r.toNatClampNeg) (ι 54 r.toNatClampNeg) (ι 40 2))]) 0 0 DX12_hang_42 L12_188 rfl rfl rfl rfl rfl ⟨nle rfl, nle rfl, nle rfl⟩ ⟨rfl, nle rfl⟩ ⟨rfl, nle rfl⟩ (m_isFree K r ι ρ Λ hF (gIn_nn (m := 200) (k := r) (n := nr) (by rw [← hR]; assumption) hr (by omega))) rfl ?_
        refine x_if_eq 57 DX12_hang_45 (by decide) (fun c_45 => ?_) (fun c_45 => ?_)
        · refine x_aload_n 0 DX12_hang_57 rfl rfl ?_
          refine x_bipush (-3) DX12_hang_58 (by decide) ?_
          refine x_Ve (ci := 12) (av := [vI (-3)]) (rest := []) (st' := [vI (-3)]) 0 0 DX12_hang_60 L12_120 rfl rfl rfl rfl rfl ⟨nle rfl, nle rfl, nle rfl⟩ ⟨rfl, nle rfl⟩ ⟨rfl, nle rfl⟩ (m_refuse K (-3) ι ρ Λ hF ⟨by decide, by decide⟩) rfl ?_
          refine x_nmι (fun ι60 e_ι60 => ?_)
          exact x_ireturn DX12_hang_63 rfl ⟨by grind [cHang, rs, sFree], by grind [cHang, rsM, sFree, mHang], rfl, rfl⟩
        · refine x_aload_n 0 DX12_hang_48 rfl rfl ?_
          refine x_getr 26 (some 59) DX12_hang_49 (Or.inr F12_65) rfl rfl (hF.1 40 26 59 rfl) ?_
          refine x_iload_n 2 DX12_hang_52 rfl rfl ?_
          refine x_iald (v := (ι 59 p.toNatClampNeg)) p.toNatClampNeg rfl DX12_hang_53 rfl (gIn.fx hF (c := 59) (n := 6) rfl (gIn_of 6 (by assumption) rfl)) rfl ?_
          refine x_if_lt 64 DX12_hang_54 (by decide) (fun c_54 => ?_) (fun c_54 => ?_)
          · refine x_aload_n 0 DX12_hang_64 rfl rfl ?_
            refine x_getr 25 (some 58) DX12_hang_65 (Or.inr F12_62) rfl rfl (hF.1 40 25 58 rfl) ?_
            refine x_iload_n 1 DX12_hang_68 rfl rfl ?_
            refine x_iconst 1 DX12_hang_69 (by decide) ?_
            refine x_zast r.toNatClampNeg rfl DX12_hang_70 rfl (gIn.fx hF (c := 58) (n := 200) rfl (gIn_nn (m := 200) (k := r) (n := nr) (by rw [← hR]; assumption) hr (by omega))) (Or.inr rfl) (fun ι70 e_ι70 => ?_)
            refine x_aload_n 0 DX12_hang_71 rfl rfl ?_
            refine x_getr 26 (some 59) DX12_hang_72 (Or.inr F12_65) rfl rfl (hF.1 40 26 59 rfl) ?_
            refine x_iload_n 2 DX12_hang_75 rfl rfl ?_
            refine x_iload_n 1 DX12_hang_76 rfl rfl ?_
            refine x_iast p.toNatClampNeg rfl DX12_hang_77 rfl (gIn.fx hF (c := 59) (n := 6) rfl (gIn_of 6 (by assumption) rfl)) (fun ι77 e_ι77 => ?_)
            refine x_aload_n 0 DX12_hang_78 rfl rfl ?_
            refine x_getr 22 (some 55) DX12_hang_79 (Or.inr F12_53) rfl rfl (hF.1 40 22 55 rfl) ?_
            refine x_iload_n 1 DX12_hang_82 rfl rfl ?_
            refine x_iload_n 2 DX12_hang_83 rfl rfl ?_
            refine x_iast r.toNatClampNeg rfl DX12_hang_84 rfl (gIn.fx hF (c := 55) (n := 200) rfl (gIn_nn (m := 200) (k := r) (n := nr) (by rw [← hR]; assumption) hr (by omega))) (fun ι84 e_ι84 => ?_)
            refine x_aload_n 0 DX12_hang_85 rfl rfl ?_
            refine x_getr 27 (some 60) DX12_hang_86 (Or.inr F12_68) rfl rfl (hF.1 40 27 60 rfl) ?_
            refine x_iload_n 2 DX12_hang_89 rfl rfl ?_
            refine x_bipush 50 DX12_hang_90 (by decide) ?_
            refine x_iast p.toNatClampNeg rfl DX12_hang_92 rfl (gIn.fx hF (c := 60) (n := 6) rfl (gIn_of 6 (by assumption) rfl)) (fun ι92 e_ι92 => ?_)
            refine x_aload_n 0 DX12_hang_93 rfl rfl ?_
            refine x_getr 28 (some 61) DX12_hang_94 (Or.inr F12_71) rfl rfl (hF.1 40 28 61 rfl) ?_
            refine x_iload_n 2 DX12_hang_97 rfl rfl ?_
            refine x_iconst 0 DX12_hang_98 (by decide) ?_
            refine x_iast p.toNatClampNeg rfl DX12_hang_99 rfl (gIn.fx hF (c := 61) (n := 6) rfl (gIn_of 6 (by assumption) rfl)) (fun ι99 e_ι99 => ?_)
            refine x_aload_n 0 DX12_hang_100 rfl rfl ?_
            refine x_getr 29 (some 62) DX12_hang_101 (Or.inr F12_74) rfl rfl (hF.1 40 29 62 rfl) ?_
            refine x_iload_n 2 DX12_hang_104 rfl rfl ?_
            refine x_iconst 0 DX12_hang_105 (by decide) ?_
            refine x_iast p.toNatClampNeg rfl DX12_hang_106 rfl (gIn.fx hF (c := 62) (n := 6) rfl (gIn_of 6 (by assumption) rfl)) (fun ι106 e_ι106 => ?_)
            refine x_iconst 1 DX12_hang_107 (by decide) ?_
            exact x_ireturn DX12_hang_108 rfl ⟨by grind [cHang, rs, sFree], by grind [cHang, rsM, sFree, mHang], rfl, rfl⟩
          · refine x_aload_n 0 DX12_hang_57 rfl rfl ?_
            refine x_bipush (-3) DX12_hang_58 (by decide) ?_
            refine x_Ve (ci := 12) (av := [vI (-3)]) (rest := []) (st' := [vI (-3)]) 0 0 DX12_hang_60 L12_120 rfl rfl rfl rfl rfl ⟨nle rfl, nle rfl, nle rfl⟩ ⟨rfl, nle rfl⟩ ⟨rfl, nle rfl⟩ (m_refuse K (-3) ι ρ Λ hF ⟨by decide, by decide⟩) rfl ?_
            refine x_nmι (fun ι60 e_ι60 => ?_)
            exact x_ireturn DX12_hang_63 rfl ⟨by grind [cHang, rs, sFree], by grind [cHang, rsM, sFree, mHang], rfl, rfl⟩
      · refine x_aload_n 0 DX12_hang_33 rfl rfl ?_
        refine x_bipush (-2) DX12_hang_34 (by decide) ?_
        refine x_Ve (ci := 12) (av := [vI (-2)]) (rest := []) (st' := [vI (-2)]) 0 0 DX12_hang_36 L12_120 rfl rfl rfl rfl rfl ⟨nle rfl, nle rfl, nle rfl⟩ ⟨rfl, nle rfl⟩ ⟨rfl, nle rfl⟩ (m_refuse K (-2) ι ρ Λ hF ⟨by decide, by decide⟩) rfl ?_
        refine x_nmι (fun ι36 e_ι36 => ?_)
        exact x_ireturn DX12_hang_39 rfl ⟨by grind [cHang, rs, sFree], by grind [cHang, rsM, sFree, mHang], rfl, rfl⟩
    · refine x_aload_n 0 DX12_hang_17 rfl rfl ?_
      refine x_iconst (-1) DX12_hang_18 (by decide) ?_
      refine x_Ve (ci := 12) (av := [vI (-1)]) (rest := []) (st' := [vI (-1)]) 0 0 DX12_hang_19 L12_120 rfl rfl rfl rfl rfl ⟨nle rfl, nle rfl, nle rfl⟩ ⟨rfl, nle rfl⟩ ⟨rfl, nle rfl⟩ (m_refuse K (-1) ι ρ Λ hF ⟨by decide, by decide⟩) rfl ?_
      refine x_nmι (fun ι19 e_ι19 => ?_)
      exact x_ireturn DX12_hang_22 rfl ⟨by grind [cHang, rs, sFree], by grind [cHang, rsM, sFree, mHang], rfl, rfl⟩
theorem m_gone0 (K : gK) (p : Nat) (ι : gIm) (ρ : gRm) (Λ : gLm) (hF : gFix ρ Λ) (hp : p < 6) (hh : gIn (ι 59 p) 200) : gCe K 1 0 0 jX12_gone [vR 40, vI (nI p)] ι ρ Λ (some (vI (ι 59 p))) (mGone ι p) ρ Λ := by
  refine gC_of (by decide) (nle rfl) ?_
  refine x_aload_n 0 DX12_gone_0 rfl rfl ?_
  refine x_getr 26 (some 59) DX12_gone_1 (Or.inr F12_65) rfl rfl (hF.1 40 26 59 rfl) ?_
  refine x_iload_n 1 DX12_gone_4 rfl rfl ?_
  refine x_iald (v := (ι 59 p)) p (nI_cl1 (by omega)) DX12_gone_5 rfl (gIn.fx hF (c := 59) (n := 6) rfl (gIn_nI (by omega) (by omega))) rfl ?_
  refine x_istore_n 2 (lv' := [some (vR 40), some (vI (nI p)), some (vI (ι 59 p))]) DX12_gone_6 rfl ⟨nlt rfl, nlt rfl⟩ rfl ?_
  refine x_aload_n 0 DX12_gone_7 rfl rfl ?_
  refine x_getr 26 (some 59) DX12_gone_8 (Or.inr F12_65) rfl rfl (hF.1 40 26 59 rfl) ?_
  refine x_iload_n 1 DX12_gone_11 rfl rfl ?_
  refine x_bipush (-9) DX12_gone_12 (by decide) ?_
  refine x_iast p (nI_cl1 (by omega)) DX12_gone_14 rfl (gIn.fx hF (c := 59) (n := 6) rfl (gIn_nI (by omega) (by omega))) (fun ι14 e_ι14 => ?_)
  refine x_aload_n 0 DX12_gone_15 rfl rfl ?_
  refine x_getr 22 (some 55) DX12_gone_16 (Or.inr F12_53) rfl rfl (hF.1 40 22 55 rfl) ?_
  refine x_iload_n 2 DX12_gone_19 rfl rfl ?_
  refine x_bipush (-9) DX12_gone_20 (by decide) ?_
  refine x_iast ((ι 59 p).toNatClampNeg) rfl DX12_gone_22 rfl (gIn.fx hF (c := 55) (n := 200) rfl hh) (fun ι22 e_ι22 => ?_)
  refine x_iload_n 2 DX12_gone_23 rfl rfl ?_
  exact x_ireturn DX12_gone_24 rfl ⟨rfl, by subst_vars; rfl, rfl, rfl⟩
theorem m_gone (K : gK) (p : Int32) (ι : gIm) (ρ : gRm) (Λ : gLm) (hF : gFix ρ Λ) (hp : gIn p 6) (hh : gIn (ι 59 p.toNatClampNeg) 200) : gCe K 1 0 0 jX12_gone [vR 40, vI p] ι ρ Λ (some (vI (ι 59 p.toNatClampNeg))) (mGone ι p.toNatClampNeg) ρ Λ := by
  have g := m_gone0 K p.toNatClampNeg ι ρ Λ hF hp.2 hh
  rw [← hp.nI] at g
  exact g
theorem m_cut (K : gK) (p : Int32) (ι : gIm) (ρ : gRm) (Λ : gLm) (hF : gFix ρ Λ) (hg : ∀ p, p < 6 → ¬ ι 59 p < 0 → gIn (ι 59 p) 200) : gCe K 3 0 0 jX12_cut [vR 40, vI p] ι ρ Λ (some (vI (rs (cCut p (ι 59 p.toNatClampNeg)) (ι 59 p.toNatClampNeg)))) (rsM (cCut p (ι 59 p.toNatClampNeg)) 41 ι (mGone ι p.toNatClampNeg)) ρ Λ := by
  refine gC_of (by decide) (nle rfl) ?_
  refine x_iload_n 1 DX12_cut_0 rfl rfl ?_
  refine x_bipush 6 DX12_cut_1 (by decide) ?_
  refine x_Se (av := [vI p, vI 6]) (rest := []) (st' := [vI (b2i (0 ≤ p ∧ p < 6))]) 0 0 DX12_cut_3 L12_124 rfl rfl ⟨nle rfl, nle rfl, nle rfl⟩ ⟨rfl, nle rfl⟩ ⟨rfl, nle rfl⟩ (m_isIn K p 6 ι ρ Λ) rfl ?_
  refine x_if_ne_b 15 DX12_cut_6 (by decide) (fun c_6 => ?_) (fun c_6 => ?_)
  · refine x_aload_n 0 DX12_cut_15 rfl rfl ?_
    refine x_getr 26 (some 59) DX12_cut_16 (Or.inr F12_65) rfl rfl (hF.1 40 26 59 rfl) ?_
    refine x_iload_n 1 DX12_cut_19 rfl rfl ?_
    refine x_iald (v := (ι 59 p.toNatClampNeg)) p.toNatClampNeg rfl DX12_cut_20 rfl (gIn.fx hF (c := 59) (n := 6) rfl (gIn_of 6 (by assumption) rfl)) rfl ?_
    refine x_if_ge 33 DX12_cut_21 (by decide) (fun c_21 => ?_) (fun c_21 => ?_)
    · refine x_aload_n 0 DX12_cut_33 rfl rfl ?_
      refine x_iload_n 1 DX12_cut_34 rfl rfl ?_
      refine x_Ve (ci := 12) (av := [vI p]) (rest := []) (st' := [vI (ι 59 p.toNatClampNeg)]) 0 0 DX12_cut_35 L12_194 rfl rfl rfl rfl rfl ⟨nle rfl, nle rfl, nle rfl⟩ ⟨rfl, nle rfl⟩ ⟨rfl, nle rfl⟩ (m_gone K p ι ρ Λ hF (gIn_of 6 (by assumption) rfl) (hg _ (gIn_of 6 (by assumption) rfl).2 (by grind))) rfl ?_
      refine x_nmι (fun ι35 e_ι35 => ?_)
      exact x_ireturn DX12_cut_38 rfl ⟨by grind [cCut, rs], by grind [cCut, rsM], rfl, rfl⟩
    · refine x_aload_n 0 DX12_cut_24 rfl rfl ?_
      refine x_bipush (-3) DX12_cut_25 (by decide) ?_
      refine x_Ve (ci := 12) (av := [vI (-3)]) (rest := []) (st' := [vI (-3)]) 0 0 DX12_cut_27 L12_120 rfl rfl rfl rfl rfl ⟨nle rfl, nle rfl, nle rfl⟩ ⟨rfl, nle rfl⟩ ⟨rfl, nle rfl⟩ (m_refuse K (-3) ι ρ Λ hF ⟨by decide, by decide⟩) rfl ?_
      refine x_nmι (fun ι27 e_ι27 => ?_)
      refine x_goto 38 DX12_cut_30 (by decide) ?_
      exact x_ireturn DX12_cut_38 rfl ⟨by grind [cCut, rs], by grind [cCut, rsM], rfl, rfl⟩
  · refine x_aload_n 0 DX12_cut_9 rfl rfl ?_
    refine x_iconst (-1) DX12_cut_10 (by decide) ?_
    refine x_Ve (ci := 12) (av := [vI (-1)]) (rest := []) (st' := [vI (-1)]) 0 0 DX12_cut_11 L12_120 rfl rfl rfl rfl rfl ⟨nle rfl, nle rfl, nle rfl⟩ ⟨rfl, nle rfl⟩ ⟨rfl, nle rfl⟩ (m_refuse K (-1) ι ρ Λ hF ⟨by decide, by decide⟩) rfl ?_
    refine x_nmι (fun ι11 e_ι11 => ?_)
    exact x_ireturn DX12_cut_14 rfl ⟨by grind [cCut, rs], by grind [cCut, rsM], rfl, rfl⟩
theorem m_tension (K : gK) (p v : Int32) (ι : gIm) (ρ : gRm) (Λ : gLm) (hF : gFix ρ Λ) : gCe K 3 0 0 jX12_tension [vR 40, vI p, vI v] ι ρ Λ (some (vI (rs (cTens p v (ι 59 p.toNatClampNeg)) (ι 60 p.toNatClampNeg)))) (rsM (cTens p v (ι 59 p.toNatClampNeg)) 41 ι (up2 ι 60 p.toNatClampNeg v)) ρ Λ := by
  refine gC_of (by decide) (nle rfl) ?_
  refine x_iload_n 1 DX12_tension_0 rfl rfl ?_
  refine x_bipush 6 DX12_tension_1 (by decide) ?_
  refine x_Se (av := [vI p, vI 6]) (rest := []) (st' := [vI (b2i (0 ≤ p ∧ p < 6))]) 0 0 DX12_tension_3 L12_124 rfl rfl ⟨nle rfl, nle rfl, nle rfl⟩ ⟨rfl, nle rfl⟩ ⟨rfl, nle rfl⟩ (m_isIn K p 6 ι ρ Λ) rfl ?_
  refine x_if_ne_b 13 DX12_tension_6 (by decide) (fun c_6 => ?_) (fun c_6 => ?_)
  · refine x_aload_n 0 DX12_tension_13 rfl rfl ?_
    refine x_getr 26 (some 59) DX12_tension_14 (Or.inr F12_65) rfl rfl (hF.1 40 26 59 rfl) ?_
    refine x_iload_n 1 DX12_tension_17 rfl rfl ?_
    refine x_iald (v := (ι 59 p.toNatClampNeg)) p.toNatClampNeg rfl DX12_tension_18 rfl (gIn.fx hF (c := 59) (n := 6) rfl (gIn_of 6 (by assumption) rfl)) rfl ?_
    refine x_if_ge 27 DX12_tension_19 (by decide) (fun c_19 => ?_) (fun c_19 => ?_)
    · refine x_iload_n 2 DX12_tension_27 rfl rfl ?_
      refine x_iconst 0 DX12_tension_28 (by decide) ?_
      refine x_bipush 99 DX12_tension_29 (by decide) ?_
      refine x_Se (av := [vI v, vI 0, vI 99]) (rest := []) (st' := [vI (wr v 0 99)]) 0 0 DX12_tension_31 L12_128 rfl rfl ⟨nle rfl, nle rfl, nle rfl⟩ ⟨rfl, nle rfl⟩ ⟨rfl, nle rfl⟩ (m_wrong K v 0 99 ι ρ Λ) rfl ?_
      refine x_istore_n 3 (lv' := [some (vR 40), some (vI p), some (vI v), some (vI (wr v 0 99)), none]) DX12_tension_34 rfl ⟨nlt rfl, nlt rfl⟩ rfl ?_
      refine x_iload_n 3 DX12_tension_35 rfl rfl ?_
      refine x_if_eq 45 DX12_tension_36 (by decide) (fun c_36 => ?_) (fun c_36 => ?_)
      · refine x_aload_n 0 DX12_tension_45 rfl rfl ?_
        refine x_getr 27 (some 60) DX12_tension_46 (Or.inr F12_68) rfl rfl (hF.1 40 27 60 rfl) ?_
        refine x_iload_n 1 DX12_tension_49 rfl rfl ?_
        refine x_iald (v := (ι 60 p.toNatClampNeg)) p.toNatClampNeg rfl DX12_tension_50 rfl (gIn.fx hF (c := 60) (n := 6) rfl (gIn_of 6 (by assumption) rfl)) rfl ?_
        refine x_istore (lv' := [some (vR 40), some (vI p), some (vI v), some (vI (wr v 0 99)), some (vI (ι 60 p.toNatClampNeg))]) DX12_tension_51 ⟨nlt rfl, nlt rfl⟩ rfl ?_
        refine x_aload_n 0 DX12_tension_53 rfl rfl ?_
        refine x_getr 27 (some 60) DX12_tension_54 (Or.inr F12_68) rfl rfl (hF.1 40 27 60 rfl) ?_
        refine x_iload_n 1 DX12_tension_57 rfl rfl ?_
        refine x_iload_n 2 DX12_tension_58 rfl rfl ?_
        refine x_iast p.toNatClampNeg rfl DX12_tension_59 rfl (gIn.fx hF (c := 60) (n := 6) rfl (gIn_of 6 (by assumption) rfl)) (fun ι59 e_ι59 => ?_)
        refine x_iload DX12_tension_60 rfl ?_
        exact x_ireturn DX12_tension_62 rfl ⟨by grind [cTens, rs], by grind [cTens, rsM], rfl, rfl⟩
      · refine x_aload_n 0 DX12_tension_39 rfl rfl ?_
        refine x_iload_n 3 DX12_tension_40 rfl rfl ?_
        refine x_Ve (ci := 12) (av := [vI (wr v 0 99)]) (rest := []) (st' := [vI (wr v 0 99)]) 0 0 DX12_tension_41 L12_120 rfl rfl rfl rfl rfl ⟨nle rfl, nle rfl, nle rfl⟩ ⟨rfl, nle rfl⟩ ⟨rfl, nle rfl⟩ (m_refuse K (wr v 0 99) ι ρ Λ hF (wr_in _ _ _ (by assumption))) rfl ?_
        refine x_nmι (fun ι41 e_ι41 => ?_)
        exact x_ireturn DX12_tension_44 rfl ⟨by grind [cTens, rs], by grind [cTens, rsM], rfl, rfl⟩
    · refine x_bipush (-3) DX12_tension_22 (by decide) ?_
      refine x_goto 34 DX12_tension_24 (by decide) ?_
      refine x_istore_n 3 (lv' := [some (vR 40), some (vI p), some (vI v), some (vI (-3)), none]) DX12_tension_34 rfl ⟨nlt rfl, nlt rfl⟩ rfl ?_
      refine x_iload_n 3 DX12_tension_35 rfl rfl ?_
      refine x_if_eq 45 DX12_tension_36 (by decide) (fun h => absurd h (by decide)) (fun _ => ?_)
      refine x_aload_n 0 DX12_tension_39 rfl rfl ?_
      refine x_iload_n 3 DX12_tension_40 rfl rfl ?_
      refine x_Ve (ci := 12) (av := [vI (-3)]) (rest := []) (st' := [vI (-3)]) 0 0 DX12_tension_41 L12_120 rfl rfl rfl rfl rfl ⟨nle rfl, nle rfl, nle rfl⟩ ⟨rfl, nle rfl⟩ ⟨rfl, nle rfl⟩ (m_refuse K (-3) ι ρ Λ hF ⟨by decide, by decide⟩) rfl ?_
      refine x_nmι (fun ι41 e_ι41 => ?_)
      exact x_ireturn DX12_tension_44 rfl ⟨by grind [cTens, rs], by grind [cTens, rsM], rfl, rfl⟩
  · refine x_iconst (-1) DX12_tension_9 (by decide) ?_
    refine x_goto 34 DX12_tension_10 (by decide) ?_
    refine x_istore_n 3 (lv' := [some (vR 40), some (vI p), some (vI v), some (vI (-1)), none]) DX12_tension_34 rfl ⟨nlt rfl, nlt rfl⟩ rfl ?_
    refine x_iload_n 3 DX12_tension_35 rfl rfl ?_
    refine x_if_eq 45 DX12_tension_36 (by decide) (fun h => absurd h (by decide)) (fun _ => ?_)
    refine x_aload_n 0 DX12_tension_39 rfl rfl ?_
    refine x_iload_n 3 DX12_tension_40 rfl rfl ?_
    refine x_Ve (ci := 12) (av := [vI (-1)]) (rest := []) (st' := [vI (-1)]) 0 0 DX12_tension_41 L12_120 rfl rfl rfl rfl rfl ⟨nle rfl, nle rfl, nle rfl⟩ ⟨rfl, nle rfl⟩ ⟨rfl, nle rfl⟩ (m_refuse K (-1) ι ρ Λ hF ⟨by decide, by decide⟩) rfl ?_
    refine x_nmι (fun ι41 e_ι41 => ?_)
    exact x_ireturn DX12_tension_44 rfl ⟨by grind [cTens, rs], by grind [cTens, rsM], rfl, rfl⟩
theorem m_strengthOf (K : gK) (p m : Int32) (ι : gIm) (ρ : gRm) (Λ : gLm) (hF : gFix ρ Λ) (hg : ∀ p, p < 6 → ¬ ι 59 p < 0 → gIn (ι 59 p) 200) (hp : gIn p 6) : gCe K 2 0 0 jX12_strengthOf [vR 40, vI p, vI m] ι ρ Λ (some (vI (sStg ι m p.toNatClampNeg))) ι ρ Λ := by
  refine gC_of (by decide) (nle rfl) ?_
  refine x_aload_n 0 DX12_strengthOf_0 rfl rfl ?_
  refine x_getr 26 (some 59) DX12_strengthOf_1 (Or.inr F12_65) rfl rfl (hF.1 40 26 59 rfl) ?_
  refine x_iload_n 1 DX12_strengthOf_4 rfl rfl ?_
  refine x_iald (v := (ι 59 p.toNatClampNeg)) p.toNatClampNeg rfl DX12_strengthOf_5 rfl (gIn.fx hF (c := 59) (n := 6) rfl hp) rfl ?_
  refine x_if_ge 13 DX12_strengthOf_6 (by decide) (fun c_6 => ?_) (fun c_6 => ?_)
  · refine x_iconst 0 DX12_strengthOf_13 (by decide) ?_
    refine x_bipush 10 DX12_strengthOf_14 (by decide) ?_
    refine x_aload_n 0 DX12_strengthOf_16 rfl rfl ?_
    refine x_getr 20 (some 53) DX12_strengthOf_17 (Or.inr F12_47) rfl rfl (hF.1 40 20 53 rfl) ?_
    refine x_aload_n 0 DX12_strengthOf_20 rfl rfl ?_
    refine x_getr 26 (some 59) DX12_strengthOf_21 (Or.inr F12_65) rfl rfl (hF.1 40 26 59 rfl) ?_
    refine x_iload_n 1 DX12_strengthOf_24 rfl rfl ?_
    refine x_iald (v := (ι 59 p.toNatClampNeg)) p.toNatClampNeg rfl DX12_strengthOf_25 rfl (gIn.fx hF (c := 59) (n := 6) rfl hp) rfl ?_
    refine x_iald (v := (ι 53 ((ι 59 p.toNatClampNeg).toNatClampNeg))) ((ι 59 p.toNatClampNeg).toNatClampNeg) rfl DX12_strengthOf_26 rfl (gIn.fx hF (c := 53) (n := 200) rfl (hg _ hp.2 (by grind))) rfl ?_
    refine x_imul DX12_strengthOf_27 ?_
    refine x_aload_n 0 DX12_strengthOf_28 rfl rfl ?_
    refine x_getr 28 (some 61) DX12_strengthOf_29 (Or.inr F12_71) rfl rfl (hF.1 40 28 61 rfl) ?_
    refine x_iload_n 1 DX12_strengthOf_32 rfl rfl ?_
    refine x_iald (v := (ι 61 p.toNatClampNeg)) p.toNatClampNeg rfl DX12_strengthOf_33 rfl (gIn.fx hF (c := 61) (n := 6) rfl hp) rfl ?_
    refine x_iload_n 2 DX12_strengthOf_34 rfl rfl ?_
    refine x_iadd DX12_strengthOf_35 ?_
    refine x_iconst 3 DX12_strengthOf_36 (by decide) ?_
    refine x_idiv DX12_strengthOf_37 (by decide) ?_
    refine x_isub DX12_strengthOf_38 ?_
    refine x_bipush 40 DX12_strengthOf_39 (by decide) ?_
    refine x_aload_n 0 DX12_strengthOf_41 rfl rfl ?_
    refine x_getr 29 (some 62) DX12_strengthOf_42 (Or.inr F12_74) rfl rfl (hF.1 40 29 62 rfl) ?_
    refine x_iload_n 1 DX12_strengthOf_45 rfl rfl ?_
    refine x_iald (v := (ι 62 p.toNatClampNeg)) p.toNatClampNeg rfl DX12_strengthOf_46 rfl (gIn.fx hF (c := 62) (n := 6) rfl hp) rfl ?_
    refine x_imul DX12_strengthOf_47 ?_
    refine x_isub DX12_strengthOf_48 ?_
    refine x_Se (av := [vI 0, vI (((10 * (ι 53 ((ι 59 p.toNatClampNeg).toNatClampNeg))) - (((ι 61 p.toNatClampNeg) + m) / 3)) - (40 * (ι 62 p.toNatClampNeg)))]) (rest := []) (st' := [vI (imax 0 (((10 * (ι 53 ((ι 59 p.toNatClampNeg).toNatClampNeg))) - (((ι 61 p.toNatClampNeg) + m) / 3)) - (40 * (ι 62 p.toNatClampNeg))))]) 0 0 DX12_strengthOf_49 L12_135 rfl rfl ⟨nle rfl, nle rfl, nle rfl⟩ ⟨rfl, nle rfl⟩ ⟨rfl, nle rfl⟩ (j_max K 0 (((10 * (ι 53 ((ι 59 p.toNatClampNeg).toNatClampNeg))) - (((ι 61 p.toNatClampNeg) + m) / 3)) - (40 * (ι 62 p.toNatClampNeg))) ι ρ Λ) rfl ?_
    exact x_ireturn DX12_strengthOf_52 rfl ⟨by grind [sStg, vStg], rfl, rfl, rfl⟩
  · refine x_iconst 0 DX12_strengthOf_9 (by decide) ?_
    refine x_goto 52 DX12_strengthOf_10 (by decide) ?_
    exact x_ireturn DX12_strengthOf_52 rfl ⟨by grind [sStg, vStg], rfl, rfl, rfl⟩
theorem m_strength (K : gK) (p : Int32) (ι : gIm) (ρ : gRm) (Λ : gLm) (hF : gFix ρ Λ) (hg : ∀ p, p < 6 → ¬ ι 59 p < 0 → gIn (ι 59 p) 200) : gCe K 3 0 0 jX12_strength [vR 40, vI p] ι ρ Λ (some (vI (rs (cPl p) (sStg ι 0 p.toNatClampNeg)))) (rsM (cPl p) 41 ι ι) ρ Λ := by
  refine gC_of (by decide) (nle rfl) ?_
  refine x_iload_n 1 DX12_strength_0 rfl rfl ?_
  refine x_bipush 6 DX12_strength_1 (by decide) ?_
  refine x_Se (av := [vI p, vI 6]) (rest := []) (st' := [vI (b2i (0 ≤ p ∧ p < 6))]) 0 0 DX12_strength_3 L12_124 rfl rfl ⟨nle rfl, nle rfl, nle rfl⟩ ⟨rfl, nle rfl⟩ ⟨rfl, nle rfl⟩ (m_isIn K p 6 ι ρ Λ) rfl ?_
  refine x_if_eq_b 18 DX12_strength_6 (by decide) (fun c_6 => ?_) (fun c_6 => ?_)
  · refine x_aload_n 0 DX12_strength_18 rfl rfl ?_
    refine x_iconst (-1) DX12_strength_19 (by decide) ?_
    refine x_Ve (ci := 12) (av := [vI (-1)]) (rest := []) (st' := [vI (-1)]) 0 0 DX12_strength_20 L12_120 rfl rfl rfl rfl rfl ⟨nle rfl, nle rfl, nle rfl⟩ ⟨rfl, nle rfl⟩ ⟨rfl, nle rfl⟩ (m_refuse K (-1) ι ρ Λ hF ⟨by decide, by decide⟩) rfl ?_
    refine x_nmι (fun ι20 e_ι20 => ?_)
    exact x_ireturn DX12_strength_23 rfl ⟨by grind [cPl, rs], by grind [cPl, rsM], rfl, rfl⟩
  · refine x_aload_n 0 DX12_strength_9 rfl rfl ?_
    refine x_iload_n 1 DX12_strength_10 rfl rfl ?_
    refine x_iconst 0 DX12_strength_11 (by decide) ?_
    refine x_Ve (ci := 12) (av := [vI p, vI 0]) (rest := []) (st' := [vI (sStg ι 0 p.toNatClampNeg)]) 0 0 DX12_strength_12 L12_197 rfl rfl rfl rfl rfl ⟨nle rfl, nle rfl, nle rfl⟩ ⟨rfl, nle rfl⟩ ⟨rfl, nle rfl⟩ (m_strengthOf K p 0 ι ρ Λ hF hg (gIn_of 6 (by assumption) rfl)) rfl ?_
    refine x_goto 23 DX12_strength_15 (by decide) ?_
    exact x_ireturn DX12_strength_23 rfl ⟨by grind [cPl, rs], by grind [cPl, rsM], rfl, rfl⟩
theorem m_bearsWith (K : gK) (m : Int32) (ι : gIm) (ρ : gRm) (Λ : gLm) (hF : gFix ρ Λ) (hg : ∀ p, p < 6 → ¬ ι 59 p < 0 → gIn (ι 59 p) 200) : gCe K 3 0 0 jX12_bearsWith [vR 40, vI m] ι ρ Λ (some (vI (sBear ι m))) ι ρ Λ := by
  refine gC_of (by decide) (nle rfl) ?_
  refine x_iconst (-1) DX12_bearsWith_0 (by decide) ?_
  refine x_istore_n 2 (lv' := [some (vR 40), some (vI m), some (vI (-1)), none, none, none, none]) DX12_bearsWith_1 rfl ⟨nlt rfl, nlt rfl⟩ rfl ?_
  refine x_iconst 0 DX12_bearsWith_2 (by decide) ?_
  refine x_istore_n 3 (lv' := [some (vR 40), some (vI m), some (vI (-1)), some (vI 0), none, none, none]) DX12_bearsWith_3 rfl ⟨nlt rfl, nlt rfl⟩ rfl ?_
  refine x_bipush 99 DX12_bearsWith_4 (by decide) ?_
  refine x_istore (lv' := [some (vR 40), some (vI m), some (vI (-1)), some (vI 0), some (vI 99), none, none]) DX12_bearsWith_6 ⟨nlt rfl, nlt rfl⟩ rfl ?_
  refine x_iconst 0 DX12_bearsWith_8 (by decide) ?_
  refine x_istore (lv' := [some (vR 40), some (vI m), some (vI (-1)), some (vI 0), some (vI 99), some (vI 0), none]) DX12_bearsWith_9 ⟨nlt rfl, nlt rfl⟩ rfl ?_
  refine x_iload DX12_bearsWith_11 rfl ?_
  refine x_iconst 4 DX12_bearsWith_13 (by decide) ?_
  refine x_icmp_ge 86 DX12_bearsWith_14 (by decide) (fun h => absurd h (by decide)) (fun _ => ?_)
  refine x_aload_n 0 DX12_bearsWith_17 rfl rfl ?_
  refine x_getr 26 (some 59) DX12_bearsWith_18 (Or.inr F12_65) rfl rfl (hF.1 40 26 59 rfl) ?_
  refine x_iload DX12_bearsWith_21 rfl ?_
  refine x_iald (v := (ι 59 0)) 0 rfl DX12_bearsWith_23 rfl (gIn.fx hF (c := 59) (n := 6) rfl (⟨by decide, by decide⟩)) rfl ?_
  refine x_if_ge 29 DX12_bearsWith_24 (by decide) (fun c_24 => ?_) (fun c_24 => ?_)
  · refine x_aload_n 0 DX12_bearsWith_29 rfl rfl ?_
    refine x_iload DX12_bearsWith_30 rfl ?_
    refine x_iload_n 1 DX12_bearsWith_32 rfl rfl ?_
    refine x_Ve (ci := 12) (av := [vI 0, vI m]) (rest := []) (st' := [vI (sStg ι m 0)]) 0 0 DX12_bearsWith_33 L12_197 rfl rfl rfl rfl rfl ⟨nle rfl, nle rfl, nle rfl⟩ ⟨rfl, nle rfl⟩ ⟨rfl, nle rfl⟩ (m_strengthOf K 0 m ι ρ Λ hF hg (⟨by decide, by decide⟩)) rfl ?_
    refine x_istore (lv' := [some (vR 40), some (vI m), some (vI (-1)), some (vI 0), some (vI 99), some (vI 0), some (vI (sStg ι m 0))]) DX12_bearsWith_36 ⟨nlt rfl, nlt rfl⟩ rfl ?_
    refine x_iload_n 2 DX12_bearsWith_38 rfl rfl ?_
    refine x_if_ge 47 DX12_bearsWith_39 (by decide) (fun h => absurd h (by decide)) (fun _ => ?_)
    refine x_iload DX12_bearsWith_42 rfl ?_
    refine x_goto 53 DX12_bearsWith_44 (by decide) ?_
    refine x_istore_n 2 (lv' := [some (vR 40), some (vI m), some (vI (sStg ι m 0)), some (vI 0), some (vI 99), some (vI 0), some (vI (sStg ι m 0))]) DX12_bearsWith_53 rfl ⟨nlt rfl, nlt rfl⟩ rfl ?_
    refine x_iload_n 3 DX12_bearsWith_54 rfl rfl ?_
    refine x_aload_n 0 DX12_bearsWith_55 rfl rfl ?_
    refine x_getr 27 (some 60) DX12_bearsWith_56 (Or.inr F12_68) rfl rfl (hF.1 40 27 60 rfl) ?_
    refine x_iload DX12_bearsWith_59 rfl ?_
    refine x_iald (v := (ι 60 0)) 0 rfl DX12_bearsWith_61 rfl (gIn.fx hF (c := 60) (n := 6) rfl (⟨by decide, by decide⟩)) rfl ?_
    refine x_Se (av := [vI 0, vI (ι 60 0)]) (rest := []) (st' := [vI (imax 0 (ι 60 0))]) 0 0 DX12_bearsWith_62 L12_135 rfl rfl ⟨nle rfl, nle rfl, nle rfl⟩ ⟨rfl, nle rfl⟩ ⟨rfl, nle rfl⟩ (j_max K 0 (ι 60 0) ι ρ Λ) rfl ?_
    refine x_istore_n 3 (lv' := [some (vR 40), some (vI m), some (vI (sStg ι m 0)), some (vI (imax 0 (ι 60 0))), some (vI 99), some (vI 0), some (vI (sStg ι m 0))]) DX12_bearsWith_65 rfl ⟨nlt rfl, nlt rfl⟩ rfl ?_
    refine x_iload DX12_bearsWith_66 rfl ?_
    refine x_aload_n 0 DX12_bearsWith_68 rfl rfl ?_
    refine x_getr 27 (some 60) DX12_bearsWith_69 (Or.inr F12_68) rfl rfl (hF.1 40 27 60 rfl) ?_
    refine x_iload DX12_bearsWith_72 rfl ?_
    refine x_iald (v := (ι 60 0)) 0 rfl DX12_bearsWith_74 rfl (gIn.fx hF (c := 60) (n := 6) rfl (⟨by decide, by decide⟩)) rfl ?_
    refine x_Se (av := [vI 99, vI (ι 60 0)]) (rest := []) (st' := [vI (imin 99 (ι 60 0))]) 0 0 DX12_bearsWith_75 L12_178 rfl rfl ⟨nle rfl, nle rfl, nle rfl⟩ ⟨rfl, nle rfl⟩ ⟨rfl, nle rfl⟩ (j_min K 99 (ι 60 0) ι ρ Λ) rfl ?_
    refine x_istore (lv' := [some (vR 40), some (vI m), some (vI (sStg ι m 0)), some (vI (imax 0 (ι 60 0))), some (vI (imin 99 (ι 60 0))), some (vI 0), some (vI (sStg ι m 0))]) DX12_bearsWith_78 ⟨nlt rfl, nlt rfl⟩ rfl ?_
    refine x_iinc 1 (lv' := [some (vR 40), some (vI m), some (vI (sStg ι m 0)), some (vI (imax 0 (ι 60 0))), some (vI (imin 99 (ι 60 0))), some (vI 1), some (vI (sStg ι m 0))]) DX12_bearsWith_80 rfl rfl (nlt rfl) rfl ?_
    refine x_goto 11 DX12_bearsWith_83 (by decide) ?_
    refine x_iload DX12_bearsWith_11 rfl ?_
    refine x_iconst 4 DX12_bearsWith_13 (by decide) ?_
    refine x_icmp_ge 86 DX12_bearsWith_14 (by decide) (fun h => absurd h (by decide)) (fun _ => ?_)
    refine x_aload_n 0 DX12_bearsWith_17 rfl rfl ?_
    refine x_getr 26 (some 59) DX12_bearsWith_18 (Or.inr F12_65) rfl rfl (hF.1 40 26 59 rfl) ?_
    refine x_iload DX12_bearsWith_21 rfl ?_
    refine x_iald (v := (ι 59 1)) 1 rfl DX12_bearsWith_23 rfl (gIn.fx hF (c := 59) (n := 6) rfl (⟨by decide, by decide⟩)) rfl ?_
    refine x_if_ge 29 DX12_bearsWith_24 (by decide) (fun c_24 => ?_) (fun c_24 => ?_)
    · refine x_aload_n 0 DX12_bearsWith_29 rfl rfl ?_
      refine x_iload DX12_bearsWith_30 rfl ?_
      refine x_iload_n 1 DX12_bearsWith_32 rfl rfl ?_
      refine x_Ve (ci := 12) (av := [vI 1, vI m]) (rest := []) (st' := [vI (sStg ι m 1)]) 0 0 DX12_bearsWith_33 L12_197 rfl rfl rfl rfl rfl ⟨nle rfl, nle rfl, nle rfl⟩ ⟨rfl, nle rfl⟩ ⟨rfl, nle rfl⟩ (m_strengthOf K 1 m ι ρ Λ hF hg (⟨by decide, by decide⟩)) rfl ?_
      refine x_istore (lv' := [some (vR 40), some (vI m), some (vI (sStg ι m 0)), some (vI (imax 0 (ι 60 0))), some (vI (imin 99 (ι 60 0))), some (vI 1), some (vI (sStg ι m 1))]) DX12_bearsWith_36 ⟨nlt rfl, nlt rfl⟩ rfl ?_
      refine x_iload_n 2 DX12_bearsWith_38 rfl rfl ?_
      refine x_if_ge 47 DX12_bearsWith_39 (by decide) (fun c_39 => ?_) (fun c_39 => False.elim (c_39 (sStg_nn _ _ _)))
      refine x_iload_n 2 DX12_bearsWith_47 rfl rfl ?_
      refine x_iload DX12_bearsWith_48 rfl ?_
      refine x_Se (av := [vI (sStg ι m 0), vI (sStg ι m 1)]) (rest := []) (st' := [vI (imin (sStg ι m 0) (sStg ι m 1))]) 0 0 DX12_bearsWith_50 L12_178 rfl rfl ⟨nle rfl, nle rfl, nle rfl⟩ ⟨rfl, nle rfl⟩ ⟨rfl, nle rfl⟩ (j_min K (sStg ι m 0) (sStg ι m 1) ι ρ Λ) rfl ?_
      refine x_istore_n 2 (lv' := [some (vR 40), some (vI m), some (vI (imin (sStg ι m 0) (sStg ι m 1))), some (vI (imax 0 (ι 60 0))), some (vI (imin 99 (ι 60 0))), some (vI 1), some (vI (sStg ι m 1))]) DX12_bearsWith_53 rfl ⟨nlt rfl, nlt rfl⟩ rfl ?_
      refine x_iload_n 3 DX12_bearsWith_54 rfl rfl ?_
      refine x_aload_n 0 DX12_bearsWith_55 rfl rfl ?_
      refine x_getr 27 (some 60) DX12_bearsWith_56 (Or.inr F12_68) rfl rfl (hF.1 40 27 60 rfl) ?_
      refine x_iload DX12_bearsWith_59 rfl ?_
      refine x_iald (v := (ι 60 1)) 1 rfl DX12_bearsWith_61 rfl (gIn.fx hF (c := 60) (n := 6) rfl (⟨by decide, by decide⟩)) rfl ?_
      refine x_Se (av := [vI (imax 0 (ι 60 0)), vI (ι 60 1)]) (rest := []) (st' := [vI (imax (imax 0 (ι 60 0)) (ι 60 1))]) 0 0 DX12_bearsWith_62 L12_135 rfl rfl ⟨nle rfl, nle rfl, nle rfl⟩ ⟨rfl, nle rfl⟩ ⟨rfl, nle rfl⟩ (j_max K (imax 0 (ι 60 0)) (ι 60 1) ι ρ Λ) rfl ?_
      refine x_istore_n 3 (lv' := [some (vR 40), some (vI m), some (vI (imin (sStg ι m 0) (sStg ι m 1))), some (vI (imax (imax 0 (ι 60 0)) (ι 60 1))), some (vI (imin 99 (ι 60 0))), some (vI 1), some (vI (sStg ι m 1))]) DX12_bearsWith_65 rfl ⟨nlt rfl, nlt rfl⟩ rfl ?_
      refine x_iload DX12_bearsWith_66 rfl ?_
      refine x_aload_n 0 DX12_bearsWith_68 rfl rfl ?_
      refine x_getr 27 (some 60) DX12_bearsWith_69 (Or.inr F12_68) rfl rfl (hF.1 40 27 60 rfl) ?_
      refine x_iload DX12_bearsWith_72 rfl ?_
      refine x_iald (v := (ι 60 1)) 1 rfl DX12_bearsWith_74 rfl (gIn.fx hF (c := 60) (n := 6) rfl (⟨by decide, by decide⟩)) rfl ?_
      refine x_Se (av := [vI (imin 99 (ι 60 0)), vI (ι 60 1)]) (rest := []) (st' := [vI (imin (imin 99 (ι 60 0)) (ι 60 1))]) 0 0 DX12_bearsWith_75 L12_178 rfl rfl ⟨nle rfl, nle rfl, nle rfl⟩ ⟨rfl, nle rfl⟩ ⟨rfl, nle rfl⟩ (j_min K (imin 99 (ι 60 0)) (ι 60 1) ι ρ Λ) rfl ?_
      refine x_istore (lv' := [some (vR 40), some (vI m), some (vI (imin (sStg ι m 0) (sStg ι m 1))), some (vI (imax (imax 0 (ι 60 0)) (ι 60 1))), some (vI (imin (imin 99 (ι 60 0)) (ι 60 1))), some (vI 1), some (vI (sStg ι m 1))]) DX12_bearsWith_78 ⟨nlt rfl, nlt rfl⟩ rfl ?_
      refine x_iinc 2 (lv' := [some (vR 40), some (vI m), some (vI (imin (sStg ι m 0) (sStg ι m 1))), some (vI (imax (imax 0 (ι 60 0)) (ι 60 1))), some (vI (imin (imin 99 (ι 60 0)) (ι 60 1))), some (vI 2), some (vI (sStg ι m 1))]) DX12_bearsWith_80 rfl rfl (nlt rfl) rfl ?_
      refine x_goto 11 DX12_bearsWith_83 (by decide) ?_
      refine x_iload DX12_bearsWith_11 rfl ?_
      refine x_iconst 4 DX12_bearsWith_13 (by decide) ?_
      refine x_icmp_ge 86 DX12_bearsWith_14 (by decide) (fun h => absurd h (by decide)) (fun _ => ?_)
      refine x_aload_n 0 DX12_bearsWith_17 rfl rfl ?_
      refine x_getr 26 (some 59) DX12_bearsWith_18 (Or.inr F12_65) rfl rfl (hF.1 40 26 59 rfl) ?_
      refine x_iload DX12_bearsWith_21 rfl ?_
      refine x_iald (v := (ι 59 2)) 2 rfl DX12_bearsWith_23 rfl (gIn.fx hF (c := 59) (n := 6) rfl (⟨by decide, by decide⟩)) rfl ?_
      refine x_if_ge 29 DX12_bearsWith_24 (by decide) (fun c_24 => ?_) (fun c_24 => ?_)
      · refine x_aload_n 0 DX12_bearsWith_29 rfl rfl ?_
        refine x_iload DX12_bearsWith_30 rfl ?_
        refine x_iload_n 1 DX12_bearsWith_32 rfl rfl ?_
        refine x_Ve (ci := 12) (av := [vI 2, vI m]) (rest := []) (st' := [vI (sStg ι m 2)]) 0 0 DX12_bearsWith_33 L12_197 rfl rfl rfl rfl rfl ⟨nle rfl, nle rfl, nle rfl⟩ ⟨rfl, nle rfl⟩ ⟨rfl, nle rfl⟩ (m_strengthOf K 2 m ι ρ Λ hF hg (⟨by decide, by decide⟩)) rfl ?_
        refine x_istore (lv' := [some (vR 40), some (vI m), some (vI (imin (sStg ι m 0) (sStg ι m 1))), some (vI (imax (imax 0 (ι 60 0)) (ι 60 1))), some (vI (imin (imin 99 (ι 60 0)) (ι 60 1))), some (vI 2), some (vI (sStg ι m 2))]) DX12_bearsWith_36 ⟨nlt rfl, nlt rfl⟩ rfl ?_
        refine x_iload_n 2 DX12_bearsWith_38 rfl rfl ?_
        refine x_if_ge 47 DX12_bearsWith_39 (by decide) (fun c_39 => ?_) (fun c_39 => False.elim (c_39 (imin_nn (sStg_nn _ _ _) (sStg_nn _ _ _))))
        refine x_iload_n 2 DX12_bearsWith_47 rfl rfl ?_
        refine x_iload DX12_bearsWith_48 rfl ?_
        refine x_Se (av := [vI (imin (sStg ι m 0) (sStg ι m 1)), vI (sStg ι m 2)]) (rest := []) (st' := [vI (imin (imin (sStg ι m 0) (sStg ι m 1)) (sStg ι m 2))]) 0 0 DX12_bearsWith_50 L12_178 rfl rfl ⟨nle rfl, nle rfl, nle rfl⟩ ⟨rfl, nle rfl⟩ ⟨rfl, nle rfl⟩ (j_min K (imin (sStg ι m 0) (sStg ι m 1)) (sStg ι m 2) ι ρ Λ) rfl ?_
        refine x_istore_n 2 (lv' := [some (vR 40), some (vI m), some (vI (imin (imin (sStg ι m 0) (sStg ι m 1)) (sStg ι m 2))), some (vI (imax (imax 0 (ι 60 0)) (ι 60 1))), some (vI (imin (imin 99 (ι 60 0)) (ι 60 1))), some (vI 2), some (vI (sStg ι m 2))]) DX12_bearsWith_53 rfl ⟨nlt rfl, nlt rfl⟩ rfl ?_
        refine x_iload_n 3 DX12_bearsWith_54 rfl rfl ?_
        refine x_aload_n 0 DX12_bearsWith_55 rfl rfl ?_
        refine x_getr 27 (some 60) DX12_bearsWith_56 (Or.inr F12_68) rfl rfl (hF.1 40 27 60 rfl) ?_
        refine x_iload DX12_bearsWith_59 rfl ?_
        refine x_iald (v := (ι 60 2)) 2 rfl DX12_bearsWith_61 rfl (gIn.fx hF (c := 60) (n := 6) rfl (⟨by decide, by decide⟩)) rfl ?_
        refine x_Se (av := [vI (imax (imax 0 (ι 60 0)) (ι 60 1)), vI (ι 60 2)]) (rest := []) (st' := [vI (imax (imax (imax 0 (ι 60 0)) (ι 60 1)) (ι 60 2))]) 0 0 DX12_bearsWith_62 L12_135 rfl rfl ⟨nle rfl, nle rfl, nle rfl⟩ ⟨rfl, nle rfl⟩ ⟨rfl, nle rfl⟩ (j_max K (imax (imax 0 (ι 60 0)) (ι 60 1)) (ι 60 2) ι ρ Λ) rfl ?_
        refine x_istore_n 3 (lv' := [some (vR 40), some (vI m), some (vI (imin (imin (sStg ι m 0) (sStg ι m 1)) (sStg ι m 2))), some (vI (imax (imax (imax 0 (ι 60 0)) (ι 60 1)) (ι 60 2))), some (vI (imin (imin 99 (ι 60 0)) (ι 60 1))), some (vI 2), some (vI (sStg ι m 2))]) DX12_bearsWith_65 rfl ⟨nlt rfl, nlt rfl⟩ rfl ?_
        refine x_iload DX12_bearsWith_66 rfl ?_
        refine x_aload_n 0 DX12_bearsWith_68 rfl rfl ?_
        refine x_getr 27 (some 60) DX12_bearsWith_69 (Or.inr F12_68) rfl rfl (hF.1 40 27 60 rfl) ?_
        refine x_iload DX12_bearsWith_72 rfl ?_
        refine x_iald (v := (ι 60 2)) 2 rfl DX12_bearsWith_74 rfl (gIn.fx hF (c := 60) (n := 6) rfl (⟨by decide, by decide⟩)) rfl ?_
        refine x_Se (av := [vI (imin (imin 99 (ι 60 0)) (ι 60 1)), vI (ι 60 2)]) (rest := []) (st' := [vI (imin (imin (imin 99 (ι 60 0)) (ι 60 1)) (ι 60 2))]) 0 0 DX12_bearsWith_75 L12_178 rfl rfl ⟨nle rfl, nle rfl, nle rfl⟩ ⟨rfl, nle rfl⟩ ⟨rfl, nle rfl⟩ (j_min K (imin (imin 99 (ι 60 0)) (ι 60 1)) (ι 60 2) ι ρ Λ) rfl ?_
        refine x_istore (lv' := [some (vR 40), some (vI m), some (vI (imin (imin (sStg ι m 0) (sStg ι m 1)) (sStg ι m 2))), some (vI (imax (imax (imax 0 (ι 60 0)) (ι 60 1)) (ι 60 2))), some (vI (imin (imin (imin 99 (ι 60 0)) (ι 60 1)) (ι 60 2))), some (vI 2), some (vI (sStg ι m 2))]) DX12_bearsWith_78 ⟨nlt rfl, nlt rfl⟩ rfl ?_
        refine x_iinc 3 (lv' := [some (vR 40), some (vI m), some (vI (imin (imin (sStg ι m 0) (sStg ι m 1)) (sStg ι m 2))), some (vI (imax (imax (imax 0 (ι 60 0)) (ι 60 1)) (ι 60 2))), some (vI (imin (imin (imin 99 (ι 60 0)) (ι 60 1)) (ι 60 2))), some (vI 3), some (vI (sStg ι m 2))]) DX12_bearsWith_80 rfl rfl (nlt rfl) rfl ?_
        refine x_goto 11 DX12_bearsWith_83 (by decide) ?_
        refine x_iload DX12_bearsWith_11 rfl ?_
        refine x_iconst 4 DX12_bearsWith_13 (by decide) ?_
        refine x_icmp_ge 86 DX12_bearsWith_14 (by decide) (fun h => absurd h (by decide)) (fun _ => ?_)
        refine x_aload_n 0 DX12_bearsWith_17 rfl rfl ?_
        refine x_getr 26 (some 59) DX12_bearsWith_18 (Or.inr F12_65) rfl rfl (hF.1 40 26 59 rfl) ?_
        refine x_iload DX12_bearsWith_21 rfl ?_
        refine x_iald (v := (ι 59 3)) 3 rfl DX12_bearsWith_23 rfl (gIn.fx hF (c := 59) (n := 6) rfl (⟨by decide, by decide⟩)) rfl ?_
        refine x_if_ge 29 DX12_bearsWith_24 (by decide) (fun c_24 => ?_) (fun c_24 => ?_)
        · refine x_aload_n 0 DX12_bearsWith_29 rfl rfl ?_
          refine x_iload DX12_bearsWith_30 rfl ?_
          refine x_iload_n 1 DX12_bearsWith_32 rfl rfl ?_
          refine x_Ve (ci := 12) (av := [vI 3, vI m]) (rest := []) (st' := [vI (sStg ι m 3)]) 0 0 DX12_bearsWith_33 L12_197 rfl rfl rfl rfl rfl ⟨nle rfl, nle rfl, nle rfl⟩ ⟨rfl, nle rfl⟩ ⟨rfl, nle rfl⟩ (m_strengthOf K 3 m ι ρ Λ hF hg (⟨by decide, by decide⟩)) rfl ?_
          refine x_istore (lv' := [some (vR 40), some (vI m), some (vI (imin (imin (sStg ι m 0) (sStg ι m 1)) (sStg ι m 2))), some (vI (imax (imax (imax 0 (ι 60 0)) (ι 60 1)) (ι 60 2))), some (vI (imin (imin (imin 99 (ι 60 0)) (ι 60 1)) (ι 60 2))), some (vI 3), some (vI (sStg ι m 3))]) DX12_bearsWith_36 ⟨nlt rfl, nlt rfl⟩ rfl ?_
          refine x_iload_n 2 DX12_bearsWith_38 rfl rfl ?_
          refine x_if_ge 47 DX12_bearsWith_39 (by decide) (fun c_39 => ?_) (fun c_39 => False.elim (c_39 (imin_nn (imin_nn (sStg_nn _ _ _) (sStg_nn _ _ _)) (sStg_nn _ _ _))))
          refine x_iload_n 2 DX12_bearsWith_47 rfl rfl ?_
          refine x_iload DX12_bearsWith_48 rfl ?_
          refine x_Se (av := [vI (imin (imin (sStg ι m 0) (sStg ι m 1)) (sStg ι m 2)), vI (sStg ι m 3)]) (rest := []) (st' := [vI (imin (imin (imin (sStg ι m 0) (sStg ι m 1)) (sStg ι m 2)) (sStg ι m 3))]) 0 0 DX12_bearsWith_50 L12_178 rfl rfl ⟨nle rfl, nle rfl, nle rfl⟩ ⟨rfl, nle rfl⟩ ⟨rfl, nle rfl⟩ (j_min K (imin (imin (sStg ι m 0) (sStg ι m 1)) (sStg ι m 2)) (sStg ι m 3) ι ρ Λ) rfl ?_
          refine x_istore_n 2 (lv' := [some (vR 40), some (vI m), some (vI (imin (imin (imin (sStg ι m 0) (sStg ι m 1)) (sStg ι m 2)) (sStg ι m 3))), some (vI (imax (imax (imax 0 (ι 60 0)) (ι 60 1)) (ι 60 2))), some (vI (imin (imin (imin 99 (ι 60 0)) (ι 60 1)) (ι 60 2))), some (vI 3), some (vI (sStg ι m 3))]) DX12_bearsWith_53 rfl ⟨nlt rfl, nlt rfl⟩ rfl ?_
          refine x_iload_n 3 DX12_bearsWith_54 rfl rfl ?_
          refine x_aload_n 0 DX12_bearsWith_55 rfl rfl ?_
          refine x_getr 27 (some 60) DX12_bearsWith_56 (Or.inr F12_68) rfl rfl (hF.1 40 27 60 rfl) ?_
          refine x_iload DX12_bearsWith_59 rfl ?_
          refine x_iald (v := (ι 60 3)) 3 rfl DX12_bearsWith_61 rfl (gIn.fx hF (c := 60) (n := 6) rfl (⟨by decide, by decide⟩)) rfl ?_
          refine x_Se (av := [vI (imax (imax (imax 0 (ι 60 0)) (ι 60 1)) (ι 60 2)), vI (ι 60 3)]) (rest := []) (st' := [vI (imax (imax (imax (imax 0 (ι 60 0)) (ι 60 1)) (ι 60 2)) (ι 60 3))]) 0 0 DX12_bearsWith_62 L12_135 rfl rfl ⟨nle rfl, nle rfl, nle rfl⟩ ⟨rfl, nle rfl⟩ ⟨rfl, nle rfl⟩ (j_max K (imax (imax (imax 0 (ι 60 0)) (ι 60 1)) (ι 60 2)) (ι 60 3) ι ρ Λ) rfl ?_
          refine x_istore_n 3 (lv' := [some (vR 40), some (vI m), some (vI (imin (imin (imin (sStg ι m 0) (sStg ι m 1)) (sStg ι m 2)) (sStg ι m 3))), some (vI (imax (imax (imax (imax 0 (ι 60 0)) (ι 60 1)) (ι 60 2)) (ι 60 3))), some (vI (imin (imin (imin 99 (ι 60 0)) (ι 60 1)) (ι 60 2))), some (vI 3), some (vI (sStg ι m 3))]) DX12_bearsWith_65 rfl ⟨nlt rfl, nlt rfl⟩ rfl ?_
          refine x_iload DX12_bearsWith_66 rfl ?_
          refine x_aload_n 0 DX12_bearsWith_68 rfl rfl ?_
          refine x_getr 27 (some 60) DX12_bearsWith_69 (Or.inr F12_68) rfl rfl (hF.1 40 27 60 rfl) ?_
          refine x_iload DX12_bearsWith_72 rfl ?_
          refine x_iald (v := (ι 60 3)) 3 rfl DX12_bearsWith_74 rfl (gIn.fx hF (c := 60) (n := 6) rfl (⟨by decide, by decide⟩)) rfl ?_
          refine x_Se (av := [vI (imin (imin (imin 99 (ι 60 0)) (ι 60 1)) (ι 60 2)), vI (ι 60 3)]) (rest := []) (st' := [vI (imin (imin (imin (imin 99 (ι 60 0)) (ι 60 1)) (ι 60 2)) (ι 60 3))]) 0 0 DX12_bearsWith_75 L12_178 rfl rfl ⟨nle rfl, nle rfl, nle rfl⟩ ⟨rfl, nle rfl⟩ ⟨rfl, nle rfl⟩ (j_min K (imin (imin (imin 99 (ι 60 0)) (ι 60 1)) (ι 60 2)) (ι 60 3) ι ρ Λ) rfl ?_
          refine x_istore (lv' := [some (vR 40), some (vI m), some (vI (imin (imin (imin (sStg ι m 0) (sStg ι m 1)) (sStg ι m 2)) (sStg ι m 3))), some (vI (imax (imax (imax (imax 0 (ι 60 0)) (ι 60 1)) (ι 60 2)) (ι 60 3))), some (vI (imin (imin (imin (imin 99 (ι 60 0)) (ι 60 1)) (ι 60 2)) (ι 60 3))), some (vI 3), some (vI (sStg ι m 3))]) DX12_bearsWith_78 ⟨nlt rfl, nlt rfl⟩ rfl ?_
          refine x_iinc 4 (lv' := [some (vR 40), some (vI m), some (vI (imin (imin (imin (sStg ι m 0) (sStg ι m 1)) (sStg ι m 2)) (sStg ι m 3))), some (vI (imax (imax (imax (imax 0 (ι 60 0)) (ι 60 1)) (ι 60 2)) (ι 60 3))), some (vI (imin (imin (imin (imin 99 (ι 60 0)) (ι 60 1)) (ι 60 2)) (ι 60 3))), some (vI 4), some (vI (sStg ι m 3))]) DX12_bearsWith_80 rfl rfl (nlt rfl) rfl ?_
          refine x_goto 11 DX12_bearsWith_83 (by decide) ?_
          refine x_iload DX12_bearsWith_11 rfl ?_
          refine x_iconst 4 DX12_bearsWith_13 (by decide) ?_
          refine x_icmp_ge 86 DX12_bearsWith_14 (by decide) (fun _ => ?_) (fun h => absurd h (by decide))
          refine x_iconst 0 DX12_bearsWith_86 (by decide) ?_
          refine x_iconst 4 DX12_bearsWith_87 (by decide) ?_
          refine x_iload_n 2 DX12_bearsWith_88 rfl rfl ?_
          refine x_imul DX12_bearsWith_89 ?_
          refine x_iload_n 3 DX12_bearsWith_90 rfl rfl ?_
          refine x_iload DX12_bearsWith_91 rfl ?_
          refine x_isub DX12_bearsWith_93 ?_
          refine x_isub DX12_bearsWith_94 ?_
          refine x_Se (av := [vI 0, vI ((4 * (imin (imin (imin (sStg ι m 0) (sStg ι m 1)) (sStg ι m 2)) (sStg ι m 3))) - ((imax (imax (imax (imax 0 (ι 60 0)) (ι 60 1)) (ι 60 2)) (ι 60 3)) - (imin (imin (imin (imin 99 (ι 60 0)) (ι 60 1)) (ι 60 2)) (ι 60 3))))]) (rest := []) (st' := [vI (imax 0 ((4 * (imin (imin (imin (sStg ι m 0) (sStg ι m 1)) (sStg ι m 2)) (sStg ι m 3))) - ((imax (imax (imax (imax 0 (ι 60 0)) (ι 60 1)) (ι 60 2)) (ι 60 3)) - (imin (imin (imin (imin 99 (ι 60 0)) (ι 60 1)) (ι 60 2)) (ι 60 3)))))]) 0 0 DX12_bearsWith_95 L12_135 rfl rfl ⟨nle rfl, nle rfl, nle rfl⟩ ⟨rfl, nle rfl⟩ ⟨rfl, nle rfl⟩ (j_max K 0 ((4 * (imin (imin (imin (sStg ι m 0) (sStg ι m 1)) (sStg ι m 2)) (sStg ι m 3))) - ((imax (imax (imax (imax 0 (ι 60 0)) (ι 60 1)) (ι 60 2)) (ι 60 3)) - (imin (imin (imin (imin 99 (ι 60 0)) (ι 60 1)) (ι 60 2)) (ι 60 3)))) ι ρ Λ) rfl ?_
          exact x_ireturn DX12_bearsWith_98 rfl ⟨by rw [sBear, if_neg (by grind)]; rfl, rfl, rfl, rfl⟩
        · refine x_iconst 0 DX12_bearsWith_27 (by decide) ?_
          exact x_ireturn DX12_bearsWith_28 rfl ⟨by rw [sBear, if_pos (by grind)], rfl, rfl, rfl⟩
      · refine x_iconst 0 DX12_bearsWith_27 (by decide) ?_
        exact x_ireturn DX12_bearsWith_28 rfl ⟨by rw [sBear, if_pos (by grind)], rfl, rfl, rfl⟩
    · refine x_iconst 0 DX12_bearsWith_27 (by decide) ?_
      exact x_ireturn DX12_bearsWith_28 rfl ⟨by rw [sBear, if_pos (by grind)], rfl, rfl, rfl⟩
  · refine x_iconst 0 DX12_bearsWith_27 (by decide) ?_
    exact x_ireturn DX12_bearsWith_28 rfl ⟨by rw [sBear, if_pos (by grind)], rfl, rfl, rfl⟩
theorem m_bears (K : gK)  (ι : gIm) (ρ : gRm) (Λ : gLm) (hF : gFix ρ Λ) (hg : ∀ p, p < 6 → ¬ ι 59 p < 0 → gIn (ι 59 p) 200) : gCe K 4 0 0 jX12_bears [vR 40] ι ρ Λ (some (vI (sBear ι 0))) ι ρ Λ := by
  refine gC_of (by decide) (nle rfl) ?_
  refine x_aload_n 0 DX12_bears_0 rfl rfl ?_
  refine x_iconst 0 DX12_bears_1 (by decide) ?_
  refine x_Ve (ci := 12) (av := [vI 0]) (rest := []) (st' := [vI (sBear ι 0)]) 0 0 DX12_bears_2 L12_200 rfl rfl rfl rfl rfl ⟨nle rfl, nle rfl, nle rfl⟩ ⟨rfl, nle rfl⟩ ⟨rfl, nle rfl⟩ (m_bearsWith K 0 ι ρ Λ hF hg) rfl ?_
  exact x_ireturn DX12_bears_5 rfl ⟨rfl, rfl, rfl, rfl⟩
theorem m_isLet (K : gK) (v m : Int32) (ι : gIm) (ρ : gRm) (Λ : gLm) (hF : gFix ρ Λ) (hg : ∀ p, p < 6 → ¬ ι 59 p < 0 → gIn (ι 59 p) 200) : gCe K 4 0 0 jX12_isLet [vR 40, vI v, vI m] ι ρ Λ (some (vI (sLet ι v m))) ι ρ Λ := by
  refine gC_of (by decide) (nle rfl) ?_
  refine x_iload_n 1 DX12_isLet_0 rfl rfl ?_
  refine x_aload_n 0 DX12_isLet_1 rfl rfl ?_
  refine x_iload_n 2 DX12_isLet_2 rfl rfl ?_
  refine x_Ve (ci := 12) (av := [vI m]) (rest := [vI v]) (st' := [vI (sBear ι m), vI v]) 0 0 DX12_isLet_3 L12_200 rfl rfl rfl rfl rfl ⟨nle rfl, nle rfl, nle rfl⟩ ⟨rfl, nle rfl⟩ ⟨rfl, nle rfl⟩ (m_bearsWith K m ι ρ Λ hF hg) rfl ?_
  refine x_icmp_gt 31 DX12_isLet_6 (by decide) (fun c_6 => ?_) (fun c_6 => ?_)
  · refine x_iconst 0 DX12_isLet_31 (by decide) ?_
    exact x_zreturn DX12_isLet_32 rfl (Or.inl rfl) ⟨by grind [sLet, vLet], rfl, rfl, rfl⟩
  · refine x_aload_n 0 DX12_isLet_9 rfl rfl ?_
    refine x_iconst 4 DX12_isLet_10 (by decide) ?_
    refine x_iload_n 2 DX12_isLet_11 rfl rfl ?_
    refine x_Ve (ci := 12) (av := [vI 4, vI m]) (rest := []) (st' := [vI (sStg ι m 4)]) 0 0 DX12_isLet_12 L12_197 rfl rfl rfl rfl rfl ⟨nle rfl, nle rfl, nle rfl⟩ ⟨rfl, nle rfl⟩ ⟨rfl, nle rfl⟩ (m_strengthOf K 4 m ι ρ Λ hF hg (⟨by decide, by decide⟩)) rfl ?_
    refine x_if_le 31 DX12_isLet_15 (by decide) (fun c_15 => ?_) (fun c_15 => ?_)
    · refine x_iconst 0 DX12_isLet_31 (by decide) ?_
      exact x_zreturn DX12_isLet_32 rfl (Or.inl rfl) ⟨by grind [sLet, vLet], rfl, rfl, rfl⟩
    · refine x_aload_n 0 DX12_isLet_18 rfl rfl ?_
      refine x_iconst 5 DX12_isLet_19 (by decide) ?_
      refine x_iload_n 2 DX12_isLet_20 rfl rfl ?_
      refine x_Ve (ci := 12) (av := [vI 5, vI m]) (rest := []) (st' := [vI (sStg ι m 5)]) 0 0 DX12_isLet_21 L12_197 rfl rfl rfl rfl rfl ⟨nle rfl, nle rfl, nle rfl⟩ ⟨rfl, nle rfl⟩ ⟨rfl, nle rfl⟩ (m_strengthOf K 5 m ι ρ Λ hF hg (⟨by decide, by decide⟩)) rfl ?_
      refine x_if_le 31 DX12_isLet_24 (by decide) (fun c_24 => ?_) (fun c_24 => ?_)
      · refine x_iconst 0 DX12_isLet_31 (by decide) ?_
        exact x_zreturn DX12_isLet_32 rfl (Or.inl rfl) ⟨by grind [sLet, vLet], rfl, rfl, rfl⟩
      · refine x_iconst 1 DX12_isLet_27 (by decide) ?_
        refine x_goto 32 DX12_isLet_28 (by decide) ?_
        exact x_zreturn DX12_isLet_32 rfl (Or.inr rfl) ⟨by grind [sLet, vLet], rfl, rfl, rfl⟩
theorem m_load (K : gK) (v : Int32) (ι : gIm) (ρ : gRm) (Λ : gLm) (hF : gFix ρ Λ) (hg : ∀ p, p < 6 → ¬ ι 59 p < 0 → gIn (ι 59 p) 200) : gCe K 5 0 0 jX12_load [vR 40, vI v] ι ρ Λ (some (vI (rs (wr v 0 2000) (sLet ι v 0)))) (rsM (wr v 0 2000) 41 ι ι) ρ Λ := by
  refine gC_of (by decide) (nle rfl) ?_
  refine x_iload_n 1 DX12_load_0 rfl rfl ?_
  refine x_iconst 0 DX12_load_1 (by decide) ?_
  refine x_sipush 2000 DX12_load_2 (by decide) ?_
  refine x_Se (av := [vI v, vI 0, vI 2000]) (rest := []) (st' := [vI (wr v 0 2000)]) 0 0 DX12_load_5 L12_128 rfl rfl ⟨nle rfl, nle rfl, nle rfl⟩ ⟨rfl, nle rfl⟩ ⟨rfl, nle rfl⟩ (m_wrong K v 0 2000 ι ρ Λ) rfl ?_
  refine x_istore_n 2 (lv' := [some (vR 40), some (vI v), some (vI (wr v 0 2000))]) DX12_load_8 rfl ⟨nlt rfl, nlt rfl⟩ rfl ?_
  refine x_iload_n 2 DX12_load_9 rfl rfl ?_
  refine x_if_eq 21 DX12_load_10 (by decide) (fun c_10 => ?_) (fun c_10 => ?_)
  · refine x_aload_n 0 DX12_load_21 rfl rfl ?_
    refine x_iload_n 1 DX12_load_22 rfl rfl ?_
    refine x_iconst 0 DX12_load_23 (by decide) ?_
    refine x_Ve (ci := 12) (av := [vI v, vI 0]) (rest := []) (st' := [vI (sLet ι v 0)]) 0 0 DX12_load_24 L12_203 rfl rfl rfl rfl rfl ⟨nle rfl, nle rfl, nle rfl⟩ ⟨rfl, nle rfl⟩ ⟨rfl, nle rfl⟩ (m_isLet K v 0 ι ρ Λ hF hg) rfl ?_
    refine x_if_eq 34 DX12_load_27 (by decide) (fun c_27 => ?_) (fun c_27 => ?_)
    · refine x_iconst 0 DX12_load_34 (by decide) ?_
      exact x_ireturn DX12_load_35 rfl ⟨by grind [rs, sLet, vLet], by grind [rsM], rfl, rfl⟩
    · refine x_iconst 1 DX12_load_30 (by decide) ?_
      refine x_goto 35 DX12_load_31 (by decide) ?_
      exact x_ireturn DX12_load_35 rfl ⟨by grind [rs, sLet, vLet], by grind [rsM], rfl, rfl⟩
  · refine x_aload_n 0 DX12_load_13 rfl rfl ?_
    refine x_iload_n 2 DX12_load_14 rfl rfl ?_
    refine x_Ve (ci := 12) (av := [vI (wr v 0 2000)]) (rest := []) (st' := [vI (wr v 0 2000)]) 0 0 DX12_load_15 L12_120 rfl rfl rfl rfl rfl ⟨nle rfl, nle rfl, nle rfl⟩ ⟨rfl, nle rfl⟩ ⟨rfl, nle rfl⟩ (m_refuse K (wr v 0 2000) ι ρ Λ hF (wr_in _ _ _ (by assumption))) rfl ?_
    refine x_nmι (fun ι15 e_ι15 => ?_)
    refine x_goto 35 DX12_load_18 (by decide) ?_
    exact x_ireturn DX12_load_35 rfl ⟨by grind [rs, sLet, vLet], by grind [rsM], rfl, rfl⟩
