/-! the model, III: shares, closing -/
theorem m_share (K : gK) (h : Int32) (ι : gIm) (ρ : gRm) (Λ : gLm) (hF : gFix ρ Λ) (nh : Nat) (hH : ι 40 4 = nI nh) (hn : nh ≤ 24) (hall : ∀ h, h < nh → ι 50 h ≠ 0 → ¬ sHands (ι 50) (ι 44) nh = 0) : gCe K 3 0 0 jX12_share [vR 40, vI h] ι ρ Λ (some (vI (rs (cIs h (nI nh)) (sShare (ι 50) (ι 44) (ι 49) nh (ι 40 6) h.toNatClampNeg)))) (rsM (cIs h (nI nh)) 41 ι ι) ρ Λ := by
  refine gC_of (by decide) (nle rfl) ?_
  refine x_aload_n 0 DX12_share_0 rfl rfl ?_
  refine x_iload_n 1 DX12_share_1 rfl rfl ?_
  refine x_Ve (ci := 12) (av := [vI h]) (rest := []) (st' := [vI (b2i (0 ≤ h ∧ h < ι 40 4))]) 0 0 DX12_share_2 L12_148 rfl rfl rfl rfl rfl ⟨nle rfl, nle rfl, nle rfl⟩ ⟨rfl, nle rfl⟩ ⟨rfl, nle rfl⟩ (m_isHouse K h ι ρ Λ hF) rfl ?_
  refine x_if_eq_b 16 DX12_share_5 (by decide) (fun c_5 => ?_) (fun c_5 => ?_)
  · refine x_aload_n 0 DX12_share_16 rfl rfl ?_
    refine x_iconst (-1) DX12_share_17 (by decide) ?_
    refine x_Ve (ci := 12) (av := [vI (-1)]) (rest := []) (st' := [vI (-1)]) 0 0 DX12_share_18 L12_120 rfl rfl rfl rfl rfl ⟨nle rfl, nle rfl, nle rfl⟩ ⟨rfl, nle rfl⟩ ⟨rfl, nle rfl⟩ (m_refuse K (-1) ι ρ Λ hF ⟨by decide, by decide⟩) rfl ?_
    refine x_nmι (fun ι18 e_ι18 => ?_)
    exact x_ireturn DX12_share_21 rfl ⟨by grind [cIs, rs], by grind [cIs, rsM], rfl, rfl⟩
  · refine x_aload_n 0 DX12_share_8 rfl rfl ?_
    refine x_iload_n 1 DX12_share_9 rfl rfl ?_
    refine x_Ve (ci := 12) (av := [vI h]) (rest := []) (st' := [vI (sShare (ι 50) (ι 44) (ι 49) nh (ι 40 6) h.toNatClampNeg)]) 0 0 DX12_share_10 L12_159 rfl rfl rfl rfl rfl ⟨nle rfl, nle rfl, nle rfl⟩ ⟨rfl, nle rfl⟩ ⟨rfl, nle rfl⟩ (m_shareOf K h ι ρ Λ hF nh hH hn (gIn_nn (m := nh) (by rw [← hH]; assumption) (Nat.le_refl _) (by omega)) (hall _ (gIn_nn (m := nh) (by rw [← hH]; assumption) (Nat.le_refl _) (by omega)).2)) rfl ?_
    refine x_goto 21 DX12_share_13 (by decide) ?_
    exact x_ireturn DX12_share_21 rfl ⟨by grind [cIs, rs], by grind [cIs, rsM], rfl, rfl⟩
theorem m_owed (K : gK) (h : Int32) (ι : gIm) (ρ : gRm) (Λ : gLm) (hF : gFix ρ Λ) (nh : Nat) (hH : ι 40 4 = nI nh) (hn : nh ≤ 24) : gCe K 3 0 0 jX12_owed [vR 40, vI h] ι ρ Λ (some (vI (rsF (cIs h (nI nh)) (ι 49 h.toNatClampNeg)))) (rsM (cIs h (nI nh)) 41 ι ι) ρ Λ := by
  refine gC_of (by decide) (nle rfl) ?_
  refine x_aload_n 0 DX12_owed_0 rfl rfl ?_
  refine x_iload_n 1 DX12_owed_1 rfl rfl ?_
  refine x_Ve (ci := 12) (av := [vI h]) (rest := []) (st' := [vI (b2i (0 ≤ h ∧ h < ι 40 4))]) 0 0 DX12_owed_2 L12_148 rfl rfl rfl rfl rfl ⟨nle rfl, nle rfl, nle rfl⟩ ⟨rfl, nle rfl⟩ ⟨rfl, nle rfl⟩ (m_isHouse K h ι ρ Λ hF) rfl ?_
  refine x_if_eq_b 17 DX12_owed_5 (by decide) (fun c_5 => ?_) (fun c_5 => ?_)
  · refine x_aload_n 0 DX12_owed_17 rfl rfl ?_
    refine x_iconst (-1) DX12_owed_18 (by decide) ?_
    refine x_Ve (ci := 12) (av := [vI (-1)]) (rest := []) (st' := [vI (1000000000 - (-1))]) 0 0 DX12_owed_19 L12_132 rfl rfl rfl rfl rfl ⟨nle rfl, nle rfl, nle rfl⟩ ⟨rfl, nle rfl⟩ ⟨rfl, nle rfl⟩ (m_refuseFar K (-1) ι ρ Λ hF ⟨by decide, by decide⟩) rfl ?_
    refine x_nmι (fun ι19 e_ι19 => ?_)
    exact x_ireturn DX12_owed_22 rfl ⟨by grind [cIs, rsF], by grind [cIs, rsM], rfl, rfl⟩
  · refine x_aload_n 0 DX12_owed_8 rfl rfl ?_
    refine x_getr 16 (some 49) DX12_owed_9 (Or.inr F12_34) rfl rfl (hF.1 40 16 49 rfl) ?_
    refine x_iload_n 1 DX12_owed_12 rfl rfl ?_
    refine x_iald (v := (ι 49 h.toNatClampNeg)) h.toNatClampNeg rfl DX12_owed_13 rfl (gIn.fx hF (c := 49) (n := 24) rfl (gIn_nn (m := 24) (by rw [← hH]; assumption) hn (by omega))) rfl ?_
    refine x_goto 22 DX12_owed_14 (by decide) ?_
    exact x_ireturn DX12_owed_22 rfl ⟨by grind [cIs, rsF], by grind [cIs, rsM], rfl, rfl⟩
theorem m_close (K : gK)  (ι : gIm) (ρ : gRm) (Λ : gLm) (hF : gFix ρ Λ) (nh : Nat) (hH : ι 40 4 = nI nh) (hn : nh ≤ 24) (hall : ∀ h, h < nh → ι 50 h ≠ 0 → ¬ sHands (ι 50) (ι 44) nh = 0) : gCe K 3 0 0 jX12_close [vR 40] ι ρ Λ (some (vI (rs (if ι 40 2 = 60 then -6 else 0) (ι 40 2 + 1)))) (rsM (if ι 40 2 = 60 then -6 else 0) 41 ι (mClose ι nh)) ρ Λ := by
  refine gC_of (by decide) (nle rfl) ?_
  refine x_aload_n 0 DX12_close_0 rfl rfl ?_
  refine x_geti (v := (ι 40 2)) 2 DX12_close_1 (Or.inl F12_162) rfl rfl rfl ?_
  refine x_bipush 60 DX12_close_4 (by decide) ?_
  refine x_icmp_ne 16 DX12_close_6 (by decide) (fun c_6 => ?_) (fun c_6 => ?_)
  · refine x_iconst 0 DX12_close_16 (by decide) ?_
    refine x_istore_n 1 (lv' := [some (vR 40), some (vI 0)]) DX12_close_17 rfl ⟨nlt rfl, nlt rfl⟩ rfl ?_
    refine x_lv (lv' := [some (vR 40), some (vI (nI 0))]) (lvS (lvI nI_0.symm rfl)) ?_
    refine lpn (W := fun i => ∀ z1, z1 = mCl1 ι nh i → gX K none 3 0 0 jX12_close 18 [some (vR 40), some (vI (nI i))] [] 0 0 z1 ρ Λ _) nh (fun i hi ihi z1 hz1 => ?_) 0 (by omega) ?_ _ (by rw [mCl1, fil_0, va_up_id])
    · refine x_iload_n 1 DX12_close_18 rfl rfl ?_
      refine x_aload_n 0 DX12_close_19 rfl rfl ?_
      refine x_geti (v := (nI nh)) 4 DX12_close_20 (Or.inl F12_144) rfl rfl (by rw [hz1, mCl1, va_up_ne _ _ (by decide)]; exact hH) ?_
      refine x_icmp_ge 43 DX12_close_23 (by decide) (fun c_23 => False.elim (by rw [nI_le1 (by omega) (by omega)] at c_23; omega)) (fun c_23 => ?_)
      refine x_aload_n 0 DX12_close_26 rfl rfl ?_
      refine x_getr 31 (some 64) DX12_close_27 (Or.inr F12_80) rfl rfl (hF.1 40 31 64 rfl) ?_
      refine x_iload_n 1 DX12_close_30 rfl rfl ?_
      refine x_aload_n 0 DX12_close_31 rfl rfl ?_
      refine x_iload_n 1 DX12_close_32 rfl rfl ?_
      have e40 : z1 40 = ι 40 := by rw [hz1, mCl1, va_up_ne _ _ (by decide)]
      have e50 : z1 50 = ι 50 := by rw [hz1, mCl1, va_up_ne _ _ (by decide)]
      have e44 : z1 44 = ι 44 := by rw [hz1, mCl1, va_up_ne _ _ (by decide)]
      have e49 : z1 49 = ι 49 := by rw [hz1, mCl1, va_up_ne _ _ (by decide)]
      have g := m_shareOf0 K i z1 ρ Λ hF nh (by rw [e40]; exact hH) hn hi (by rw [e50, e44]; exact hall i hi)
      rw [e50, e44, e49, e40] at g
      refine x_Ve (ci := 12) (av := [vI (nI i)]) (rest := [vI (nI i), vR 64]) (st' := [vI (kShare ι nh i), vI (nI i), vR 64]) 0 0 DX12_close_33 L12_159 rfl rfl rfl rfl rfl ⟨nle rfl, nle rfl, nle rfl⟩ ⟨rfl, nle rfl⟩ ⟨rfl, nle rfl⟩ (g) rfl ?_
      refine x_iast i (nI_cl1 (by omega)) DX12_close_36 rfl (gIn.fx hF (c := 64) (n := 24) rfl (gIn_nI (by omega) (by omega))) (fun ι36 e_ι36 => ?_)
      refine x_iinc ((nI i) + 1) (lv' := [some (vR 40), some (vI ((nI i) + 1))]) DX12_close_37 rfl rfl (nlt rfl) rfl ?_
      refine x_goto 18 DX12_close_40 (by decide) ?_
      refine x_lv (lv' := [some (vR 40), some (vI (nI (i + 1)))]) (lvS (lvI (nI_1 i) rfl)) ?_
      exact ihi _ (by rw [e_ι36, hz1]; exact up2_fil ι 64 i (kShare ι nh) (ι 64))
    · intro z1 hz1
      have h40a : z1 40 = ι 40 := by rw [hz1, mCl1, va_up_ne _ _ (by decide)]
      have hH1 : z1 40 4 = nI nh := by rw [h40a]; exact hH
      refine x_iload_n 1 DX12_close_18 rfl rfl ?_
      refine x_aload_n 0 DX12_close_19 rfl rfl ?_
      refine x_geti (v := (nI nh)) 4 DX12_close_20 (Or.inl F12_144) rfl rfl (by rw [hz1, mCl1, va_up_ne _ _ (by decide)]; exact hH) ?_
      refine x_icmp_ge 43 DX12_close_23 (by decide) (fun c_23 => ?_) (fun c_23 => False.elim (c_23 (nI_le (by omega) (by omega))))
      refine x_iconst 0 DX12_close_43 (by decide) ?_
      refine x_istore_n 1 (lv' := [some (vR 40), some (vI 0)]) DX12_close_44 rfl ⟨nlt rfl, nlt rfl⟩ rfl ?_
      refine x_lv (lv' := [some (vR 40), some (vI (nI 0))]) (lvS (lvI nI_0.symm rfl)) ?_
      refine lpn (W := fun i => ∀ z2, z2 = mCl2 z1 i → gX K none 3 0 0 jX12_close 45 [some (vR 40), some (vI (nI i))] [] 0 0 z2 ρ Λ _) nh (fun i hi ihi z2 hz2 => ?_) 0 (by omega) ?_ _ (by rw [mCl2_0])
      · refine x_iload_n 1 DX12_close_45 rfl rfl ?_
        refine x_aload_n 0 DX12_close_46 rfl rfl ?_
        refine x_geti (v := (nI nh)) 4 DX12_close_47 (Or.inl F12_144) rfl rfl (by rw [hz2]; simp only [mCl2, va_up2_get]; exact hH1) ?_
        refine x_icmp_ge 115 DX12_close_50 (by decide) (fun c_50 => False.elim (by rw [nI_le1 (by omega) (by omega)] at c_50; omega)) (fun c_50 => ?_)
        refine x_aload_n 0 DX12_close_53 rfl rfl ?_
        refine x_getr 16 (some 49) DX12_close_54 (Or.inr F12_34) rfl rfl (hF.1 40 16 49 rfl) ?_
        refine x_iload_n 1 DX12_close_57 rfl rfl ?_
        refine x_dup2 DX12_close_58 ?_
        refine x_iald (v := (z1 49 i)) i (nI_cl1 (by omega)) DX12_close_59 rfl (gIn.fx hF (c := 49) (n := 24) rfl (gIn_nI (by omega) (by omega))) (by rw [hz2]; simp [mCl2, va_up2_get, fil]) ?_
        refine x_aload_n 0 DX12_close_60 rfl rfl ?_
        refine x_getr 31 (some 64) DX12_close_61 (Or.inr F12_80) rfl rfl (hF.1 40 31 64 rfl) ?_
        refine x_iload_n 1 DX12_close_64 rfl rfl ?_
        refine x_iald (v := (z1 64 i)) i (nI_cl1 (by omega)) DX12_close_65 rfl (gIn.fx hF (c := 64) (n := 24) rfl (gIn_nI (by omega) (by omega))) (by rw [hz2]; simp [mCl2, va_up2_get]) ?_
        refine x_aload_n 0 DX12_close_66 rfl rfl ?_
        refine x_getr 18 (some 51) DX12_close_67 (Or.inr F12_41) rfl rfl (hF.1 40 18 51 rfl) ?_
        refine x_iload_n 1 DX12_close_70 rfl rfl ?_
        refine x_zald (v := (z1 51 i)) i (nI_cl1 (by omega)) DX12_close_71 rfl (gIn.fx hF (c := 51) (n := 24) rfl (gIn_nI (by omega) (by omega))) (by rw [hz2]; simp [mCl2, va_up2_get, fil]) ?_
        refine x_if_eq 84 DX12_close_72 (by decide) (fun c_72 => ?_) (fun c_72 => ?_)
        · refine x_iconst 0 DX12_close_84 (by decide) ?_
          refine x_isub DX12_close_85 ?_
          refine x_iadd DX12_close_86 ?_
          refine x_iast i (nI_cl1 (by omega)) DX12_close_87 rfl (gIn.fx hF (c := 49) (n := 24) rfl (gIn_nI (by omega) (by omega))) (fun ι87 e_ι87 => ?_)
          refine x_aload_n 0 DX12_close_88 rfl rfl ?_
          refine x_getr 18 (some 51) DX12_close_89 (Or.inr F12_41) rfl rfl (hF.1 40 18 51 rfl) ?_
          refine x_iload_n 1 DX12_close_92 rfl rfl ?_
          refine x_iconst 0 DX12_close_93 (by decide) ?_
          refine x_zast i (nI_cl1 (by omega)) DX12_close_94 rfl (gIn.fx hF (c := 51) (n := 24) rfl (gIn_nI (by omega) (by omega))) (Or.inl rfl) (fun ι94 e_ι94 => ?_)
          refine x_aload_n 0 DX12_close_95 rfl rfl ?_
          refine x_getr 13 (some 46) DX12_close_96 (Or.inr F12_25) rfl rfl (hF.1 40 13 46 rfl) ?_
          refine x_iload_n 1 DX12_close_99 rfl rfl ?_
          refine x_iconst 0 DX12_close_100 (by decide) ?_
          refine x_iast i (nI_cl1 (by omega)) DX12_close_101 rfl (gIn.fx hF (c := 46) (n := 24) rfl (gIn_nI (by omega) (by omega))) (fun ι101 e_ι101 => ?_)
          refine x_aload_n 0 DX12_close_102 rfl rfl ?_
          refine x_getr 15 (some 48) DX12_close_103 (Or.inr F12_31) rfl rfl (hF.1 40 15 48 rfl) ?_
          refine x_iload_n 1 DX12_close_106 rfl rfl ?_
          refine x_iconst 0 DX12_close_107 (by decide) ?_
          refine x_iast i (nI_cl1 (by omega)) DX12_close_108 rfl (gIn.fx hF (c := 48) (n := 24) rfl (gIn_nI (by omega) (by omega))) (fun ι108 e_ι108 => ?_)
          refine x_iinc ((nI i) + 1) (lv' := [some (vR 40), some (vI ((nI i) + 1))]) DX12_close_109 rfl rfl (nlt rfl) rfl ?_
          refine x_goto 45 DX12_close_112 (by decide) ?_
          refine x_lv (lv' := [some (vR 40), some (vI (nI (i + 1)))]) (lvS (lvI (nI_1 i) rfl)) ?_
          exact ihi _ (by rw [mCl2_s, ← hz2]; grind [kOwe])
        · refine x_aload_n 0 DX12_close_75 rfl rfl ?_
          refine x_getr 13 (some 46) DX12_close_76 (Or.inr F12_25) rfl rfl (hF.1 40 13 46 rfl) ?_
          refine x_iload_n 1 DX12_close_79 rfl rfl ?_
          refine x_iald (v := (z1 46 i)) i (nI_cl1 (by omega)) DX12_close_80 rfl (gIn.fx hF (c := 46) (n := 24) rfl (gIn_nI (by omega) (by omega))) (by rw [hz2]; simp [mCl2, va_up2_get, fil]) ?_
          refine x_goto 85 DX12_close_81 (by decide) ?_
          refine x_isub DX12_close_85 ?_
          refine x_iadd DX12_close_86 ?_
          refine x_iast i (nI_cl1 (by omega)) DX12_close_87 rfl (gIn.fx hF (c := 49) (n := 24) rfl (gIn_nI (by omega) (by omega))) (fun ι87 e_ι87 => ?_)
          refine x_aload_n 0 DX12_close_88 rfl rfl ?_
          refine x_getr 18 (some 51) DX12_close_89 (Or.inr F12_41) rfl rfl (hF.1 40 18 51 rfl) ?_
          refine x_iload_n 1 DX12_close_92 rfl rfl ?_
          refine x_iconst 0 DX12_close_93 (by decide) ?_
          refine x_zast i (nI_cl1 (by omega)) DX12_close_94 rfl (gIn.fx hF (c := 51) (n := 24) rfl (gIn_nI (by omega) (by omega))) (Or.inl rfl) (fun ι94 e_ι94 => ?_)
          refine x_aload_n 0 DX12_close_95 rfl rfl ?_
          refine x_getr 13 (some 46) DX12_close_96 (Or.inr F12_25) rfl rfl (hF.1 40 13 46 rfl) ?_
          refine x_iload_n 1 DX12_close_99 rfl rfl ?_
          refine x_iconst 0 DX12_close_100 (by decide) ?_
          refine x_iast i (nI_cl1 (by omega)) DX12_close_101 rfl (gIn.fx hF (c := 46) (n := 24) rfl (gIn_nI (by omega) (by omega))) (fun ι101 e_ι101 => ?_)
          refine x_aload_n 0 DX12_close_102 rfl rfl ?_
          refine x_getr 15 (some 48) DX12_close_103 (Or.inr F12_31) rfl rfl (hF.1 40 15 48 rfl) ?_
          refine x_iload_n 1 DX12_close_106 rfl rfl ?_
          refine x_iconst 0 DX12_close_107 (by decide) ?_
          refine x_iast i (nI_cl1 (by omega)) DX12_close_108 rfl (gIn.fx hF (c := 48) (n := 24) rfl (gIn_nI (by omega) (by omega))) (fun ι108 e_ι108 => ?_)
          refine x_iinc ((nI i) + 1) (lv' := [some (vR 40), some (vI ((nI i) + 1))]) DX12_close_109 rfl rfl (nlt rfl) rfl ?_
          refine x_goto 45 DX12_close_112 (by decide) ?_
          refine x_lv (lv' := [some (vR 40), some (vI (nI (i + 1)))]) (lvS (lvI (nI_1 i) rfl)) ?_
          exact ihi _ (by rw [mCl2_s, ← hz2]; grind [kOwe])
      · intro z2 hz2
        have h40b : z2 40 = z1 40 := by rw [hz2]; simp [mCl2, va_up]
        refine x_iload_n 1 DX12_close_45 rfl rfl ?_
        refine x_aload_n 0 DX12_close_46 rfl rfl ?_
        refine x_geti (v := (nI nh)) 4 DX12_close_47 (Or.inl F12_144) rfl rfl (by rw [hz2]; simp only [mCl2, va_up2_get]; exact hH1) ?_
        refine x_icmp_ge 115 DX12_close_50 (by decide) (fun c_50 => ?_) (fun c_50 => False.elim (c_50 (nI_le (by omega) (by omega))))
        refine x_iconst 0 DX12_close_115 (by decide) ?_
        refine x_istore_n 1 (lv' := [some (vR 40), some (vI 0)]) DX12_close_116 rfl ⟨nlt rfl, nlt rfl⟩ rfl ?_
        refine x_lv (lv' := [some (vR 40), some (vI (nI 0))]) (lvS (lvI nI_0.symm rfl)) ?_
        refine lpn (W := fun i => ∀ z3, z3 = mCl3 z2 i → gX K none 3 0 0 jX12_close 117 [some (vR 40), some (vI (nI i))] [] 0 0 z3 ρ Λ _) 52 (fun i hi ihi z3 hz3 => ?_) 0 (by omega) ?_ _ (by rw [mCl3, fil_0, va_up_id])
        · refine x_iload_n 1 DX12_close_117 rfl rfl ?_
          refine x_bipush 52 DX12_close_118 (by decide) ?_
          refine x_icmp_ge 136 DX12_close_120 (by decide) (fun c_120 => False.elim (by rw [show (52 : Int32) = nI 52 from rfl, nI_le1 (by omega) (by omega)] at c_120; omega)) (fun c_120 => ?_)
          refine x_aload_n 0 DX12_close_123 rfl rfl ?_
          refine x_getr 1 (some 42) DX12_close_124 (Or.inr F12_13) rfl rfl (hF.1 40 1 42 rfl) ?_
          refine x_iload_n 1 DX12_close_127 rfl rfl ?_
          refine x_iconst (-1) DX12_close_128 (by decide) ?_
          refine x_iast i (nI_cl1 (by omega)) DX12_close_129 rfl (gIn.fx hF (c := 42) (n := 52) rfl (gIn_nI (by omega) (by omega))) (fun ι129 e_ι129 => ?_)
          refine x_iinc ((nI i) + 1) (lv' := [some (vR 40), some (vI ((nI i) + 1))]) DX12_close_130 rfl rfl (nlt rfl) rfl ?_
          refine x_goto 117 DX12_close_133 (by decide) ?_
          refine x_lv (lv' := [some (vR 40), some (vI (nI (i + 1)))]) (lvS (lvI (nI_1 i) rfl)) ?_
          exact ihi _ (by rw [e_ι129, hz3]; exact up2_fil z2 42 i (fun _ => -1) (z2 42))
        · intro z3 hz3
          have h40c : z3 40 = z2 40 := by rw [hz3, mCl3, va_up_ne _ _ (by decide)]
          refine x_iload_n 1 DX12_close_117 rfl rfl ?_
          refine x_bipush 52 DX12_close_118 (by decide) ?_
          refine x_icmp_ge 136 DX12_close_120 (by decide) (fun c_120 => ?_) (fun c_120 => False.elim (c_120 (by rw [show (52 : Int32) = nI 52 from rfl]; exact nI_le (by omega) (by omega))))
          refine x_iconst 0 DX12_close_136 (by decide) ?_
          refine x_istore_n 1 (lv' := [some (vR 40), some (vI 0)]) DX12_close_137 rfl ⟨nlt rfl, nlt rfl⟩ rfl ?_
          refine x_lv (lv' := [some (vR 40), some (vI (nI 0))]) (lvS (lvI nI_0.symm rfl)) ?_
          refine lpn (W := fun i => ∀ z4, z4 = mCl4 z3 i → gX K none 3 0 0 jX12_close 138 [some (vR 40), some (vI (nI i))] [] 0 0 z4 ρ Λ _) 6 (fun i hi ihi z4 hz4 => ?_) 0 (by omega) ?_ _ (by rw [mCl4, fil_0, va_up_id])
          · refine x_iload_n 1 DX12_close_138 rfl rfl ?_
            refine x_bipush 6 DX12_close_139 (by decide) ?_
            refine x_icmp_ge 160 DX12_close_141 (by decide) (fun c_141 => False.elim (by rw [show (6 : Int32) = nI 6 from rfl, nI_le1 (by omega) (by omega)] at c_141; omega)) (fun c_141 => ?_)
            refine x_aload_n 0 DX12_close_144 rfl rfl ?_
            refine x_getr 29 (some 62) DX12_close_145 (Or.inr F12_74) rfl rfl (hF.1 40 29 62 rfl) ?_
            refine x_iload_n 1 DX12_close_148 rfl rfl ?_
            refine x_dup2 DX12_close_149 ?_
            refine x_iald (v := (z3 62 i)) i (nI_cl1 (by omega)) DX12_close_150 rfl (gIn.fx hF (c := 62) (n := 6) rfl (gIn_nI (by omega) (by omega))) (by rw [hz4]; simp [mCl4, va_up2_get, fil]) ?_
            refine x_iconst 1 DX12_close_151 (by decide) ?_
            refine x_iadd DX12_close_152 ?_
            refine x_iast i (nI_cl1 (by omega)) DX12_close_153 rfl (gIn.fx hF (c := 62) (n := 6) rfl (gIn_nI (by omega) (by omega))) (fun ι153 e_ι153 => ?_)
            refine x_iinc ((nI i) + 1) (lv' := [some (vR 40), some (vI ((nI i) + 1))]) DX12_close_154 rfl rfl (nlt rfl) rfl ?_
            refine x_goto 138 DX12_close_157 (by decide) ?_
            refine x_lv (lv' := [some (vR 40), some (vI (nI (i + 1)))]) (lvS (lvI (nI_1 i) rfl)) ?_
            exact ihi _ (by rw [e_ι153, hz4]; exact up2_fil z3 62 i (fun p => z3 62 p + 1) (z3 62))
          · intro z4 hz4
            have h40d : z4 40 = z3 40 := by rw [hz4, mCl4, va_up_ne _ _ (by decide)]
            have hy4 : z4 40 2 = ι 40 2 := by rw [h40d, h40c, h40b, h40a]
            refine x_iload_n 1 DX12_close_138 rfl rfl ?_
            refine x_bipush 6 DX12_close_139 (by decide) ?_
            refine x_icmp_ge 160 DX12_close_141 (by decide) (fun c_141 => ?_) (fun c_141 => False.elim (c_141 (by rw [show (6 : Int32) = nI 6 from rfl]; exact nI_le (by omega) (by omega))))
            refine x_aload_n 0 DX12_close_160 rfl rfl ?_
            refine x_dup DX12_close_161 ?_
            refine x_geti (v := (ι 40 2)) 2 DX12_close_162 (Or.inl F12_162) rfl rfl hy4 ?_
            refine x_iconst 1 DX12_close_165 (by decide) ?_
            refine x_iadd DX12_close_166 ?_
            refine x_puti 2 DX12_close_167 F12_162 rfl (Or.inl rfl) rfl (fun ι167 e_ι167 => ?_)
            refine x_aload_n 0 DX12_close_170 rfl rfl ?_
            refine x_iconst 0 DX12_close_171 (by decide) ?_
            refine x_puti 3 DX12_close_172 F12_165 rfl (Or.inl rfl) rfl (fun ι172 e_ι172 => ?_)
            refine x_aload_n 0 DX12_close_175 rfl rfl ?_
            refine x_geti (v := ((ι 40 2) + 1)) 2 DX12_close_176 (Or.inl F12_162) rfl rfl ((rd2 e_ι172 (by decide)).trans (rdv e_ι167)) ?_
            exact x_ireturn DX12_close_179 rfl ⟨by grind [rs], by rw [rsM, if_pos (by grind)]; rw [mClose, ← hz1, ← hz2, ← hz3, ← hz4]; subst_vars; rfl, rfl, rfl⟩
  · refine x_aload_n 0 DX12_close_9 rfl rfl ?_
    refine x_bipush (-6) DX12_close_10 (by decide) ?_
    refine x_Ve (ci := 12) (av := [vI (-6)]) (rest := []) (st' := [vI (-6)]) 0 0 DX12_close_12 L12_120 rfl rfl rfl rfl rfl ⟨nle rfl, nle rfl, nle rfl⟩ ⟨rfl, nle rfl⟩ ⟨rfl, nle rfl⟩ (m_refuse K (-6) ι ρ Λ hF ⟨by decide, by decide⟩) rfl ?_
    refine x_nmι (fun ι12 e_ι12 => ?_)
    exact x_ireturn DX12_close_15 rfl ⟨by grind [rs], by grind [rsM], rfl, rfl⟩
