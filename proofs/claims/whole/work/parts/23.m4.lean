/-! the model, IV: ropes -/
theorem m_isRope (K : gK) (r : Int32) (ι : gIm) (ρ : gRm) (Λ : gLm) (hF : gFix ρ Λ) : gCe K 2 0 0 jX12_isRope [vR 40, vI r] ι ρ Λ (some (vI (b2i (0 ≤ r ∧ r < ι 40 5)))) ι ρ Λ := by
  refine gC_of (by decide) (nle rfl) ?_
  refine x_iload_n 1 DX12_isRope_0 rfl rfl ?_
  refine x_aload_n 0 DX12_isRope_1 rfl rfl ?_
  refine x_geti (v := (ι 40 5)) 5 DX12_isRope_2 (Or.inl F12_168) rfl rfl rfl ?_
  refine x_Se (av := [vI r, vI (ι 40 5)]) (rest := []) (st' := [vI (b2i (0 ≤ r ∧ r < (ι 40 5)))]) 0 0 DX12_isRope_5 L12_124 rfl rfl ⟨nle rfl, nle rfl, nle rfl⟩ ⟨rfl, nle rfl⟩ ⟨rfl, nle rfl⟩ (m_isIn K r (ι 40 5) ι ρ Λ) rfl ?_
  exact x_zreturn DX12_isRope_8 rfl (b2i_01 _) ⟨by grind [], rfl, rfl, rfl⟩
theorem m_isFree (K : gK) (r : Int32) (ι : gIm) (ρ : gRm) (Λ : gLm) (hF : gFix ρ Λ) (hr : gIn r 200) : gCe K 1 0 0 jX12_isFree [vR 40, vI r] ι ρ Λ (some (vI (sFree (ι 58 r.toNatClampNeg) (ι 54 r.toNatClampNeg) (ι 40 2)))) ι ρ Λ := by
  refine gC_of (by decide) (nle rfl) ?_
  refine x_aload_n 0 DX12_isFree_0 rfl rfl ?_
  refine x_getr 25 (some 58) DX12_isFree_1 (Or.inr F12_62) rfl rfl (hF.1 40 25 58 rfl) ?_
  refine x_iload_n 1 DX12_isFree_4 rfl rfl ?_
  refine x_zald (v := (ι 58 r.toNatClampNeg)) r.toNatClampNeg rfl DX12_isFree_5 rfl (gIn.fx hF (c := 58) (n := 200) rfl hr) rfl ?_
  refine x_if_ne 26 DX12_isFree_6 (by decide) (fun c_6 => ?_) (fun c_6 => ?_)
  · refine x_iconst 0 DX12_isFree_26 (by decide) ?_
    exact x_zreturn DX12_isFree_27 rfl (Or.inl rfl) ⟨by grind [sFree], rfl, rfl, rfl⟩
  · refine x_aload_n 0 DX12_isFree_9 rfl rfl ?_
    refine x_getr 21 (some 54) DX12_isFree_10 (Or.inr F12_50) rfl rfl (hF.1 40 21 54 rfl) ?_
    refine x_iload_n 1 DX12_isFree_13 rfl rfl ?_
    refine x_iald (v := (ι 54 r.toNatClampNeg)) r.toNatClampNeg rfl DX12_isFree_14 rfl (gIn.fx hF (c := 54) (n := 200) rfl hr) rfl ?_
    refine x_aload_n 0 DX12_isFree_15 rfl rfl ?_
    refine x_geti (v := (ι 40 2)) 2 DX12_isFree_16 (Or.inl F12_162) rfl rfl rfl ?_
    refine x_icmp_ne 26 DX12_isFree_19 (by decide) (fun c_19 => ?_) (fun c_19 => ?_)
    · refine x_iconst 0 DX12_isFree_26 (by decide) ?_
      exact x_zreturn DX12_isFree_27 rfl (Or.inl rfl) ⟨by grind [sFree], rfl, rfl, rfl⟩
    · refine x_iconst 1 DX12_isFree_22 (by decide) ?_
      refine x_goto 27 DX12_isFree_23 (by decide) ?_
      exact x_zreturn DX12_isFree_27 rfl (Or.inr rfl) ⟨by grind [sFree], rfl, rfl, rfl⟩
theorem m_cordsLeft (K : gK) (h : Int32) (ι : gIm) (ρ : gRm) (Λ : gLm) (hF : gFix ρ Λ) (hh : gIn h 24) : gCe K 1 0 0 jX12_cordsLeft [vR 40, vI h] ι ρ Λ (some (vI (sCords (ι 51 h.toNatClampNeg) (ι 46 h.toNatClampNeg) (ι 48 h.toNatClampNeg)))) ι ρ Λ := by
  refine gC_of (by decide) (nle rfl) ?_
  refine x_aload_n 0 DX12_cordsLeft_0 rfl rfl ?_
  refine x_getr 18 (some 51) DX12_cordsLeft_1 (Or.inr F12_41) rfl rfl (hF.1 40 18 51 rfl) ?_
  refine x_iload_n 1 DX12_cordsLeft_4 rfl rfl ?_
  refine x_zald (v := (ι 51 h.toNatClampNeg)) h.toNatClampNeg rfl DX12_cordsLeft_5 rfl (gIn.fx hF (c := 51) (n := 24) rfl hh) rfl ?_
  refine x_if_eq 28 DX12_cordsLeft_6 (by decide) (fun c_6 => ?_) (fun c_6 => ?_)
  · refine x_iconst 0 DX12_cordsLeft_28 (by decide) ?_
    exact x_ireturn DX12_cordsLeft_29 rfl ⟨by grind [sCords], rfl, rfl, rfl⟩
  · refine x_aload_n 0 DX12_cordsLeft_9 rfl rfl ?_
    refine x_getr 13 (some 46) DX12_cordsLeft_10 (Or.inr F12_25) rfl rfl (hF.1 40 13 46 rfl) ?_
    refine x_iload_n 1 DX12_cordsLeft_13 rfl rfl ?_
    refine x_iald (v := (ι 46 h.toNatClampNeg)) h.toNatClampNeg rfl DX12_cordsLeft_14 rfl (gIn.fx hF (c := 46) (n := 24) rfl hh) rfl ?_
    refine x_bipush 10 DX12_cordsLeft_15 (by decide) ?_
    refine x_idiv DX12_cordsLeft_17 (by decide) ?_
    refine x_aload_n 0 DX12_cordsLeft_18 rfl rfl ?_
    refine x_getr 15 (some 48) DX12_cordsLeft_19 (Or.inr F12_31) rfl rfl (hF.1 40 15 48 rfl) ?_
    refine x_iload_n 1 DX12_cordsLeft_22 rfl rfl ?_
    refine x_iald (v := (ι 48 h.toNatClampNeg)) h.toNatClampNeg rfl DX12_cordsLeft_23 rfl (gIn.fx hF (c := 48) (n := 24) rfl hh) rfl ?_
    refine x_isub DX12_cordsLeft_24 ?_
    refine x_goto 29 DX12_cordsLeft_25 (by decide) ?_
    exact x_ireturn DX12_cordsLeft_29 rfl ⟨by grind [sCords], rfl, rfl, rfl⟩
theorem m_same (K : gK) (a b c h : Int32) (ι : gIm) (ρ : gRm) (Λ : gLm)  : gCe K 1 0 0 jX12_same [vI a, vI b, vI c, vI h] ι ρ Λ (some (vI (sSame a b c h))) ι ρ Λ := by
  refine gC_of (by decide) (nle rfl) ?_
  refine x_iload_n 0 DX12_same_0 rfl rfl ?_
  refine x_iload_n 3 DX12_same_1 rfl rfl ?_
  refine x_icmp_ne 9 DX12_same_2 (by decide) (fun c_2 => ?_) (fun c_2 => ?_)
  · refine x_iconst 0 DX12_same_9 (by decide) ?_
    refine x_iload_n 1 DX12_same_10 rfl rfl ?_
    refine x_iload_n 3 DX12_same_11 rfl rfl ?_
    refine x_icmp_ne 19 DX12_same_12 (by decide) (fun c_12 => ?_) (fun c_12 => ?_)
    · refine x_iconst 0 DX12_same_19 (by decide) ?_
      refine x_iadd DX12_same_20 ?_
      refine x_iload_n 2 DX12_same_21 rfl rfl ?_
      refine x_iload_n 3 DX12_same_22 rfl rfl ?_
      refine x_icmp_ne 30 DX12_same_23 (by decide) (fun c_23 => ?_) (fun c_23 => ?_)
      · refine x_iconst 0 DX12_same_30 (by decide) ?_
        refine x_iadd DX12_same_31 ?_
        exact x_ireturn DX12_same_32 rfl ⟨by grind [sSame], rfl, rfl, rfl⟩
      · refine x_iconst 1 DX12_same_26 (by decide) ?_
        refine x_goto 31 DX12_same_27 (by decide) ?_
        refine x_iadd DX12_same_31 ?_
        exact x_ireturn DX12_same_32 rfl ⟨by grind [sSame], rfl, rfl, rfl⟩
    · refine x_iconst 1 DX12_same_15 (by decide) ?_
      refine x_goto 20 DX12_same_16 (by decide) ?_
      refine x_iadd DX12_same_20 ?_
      refine x_iload_n 2 DX12_same_21 rfl rfl ?_
      refine x_iload_n 3 DX12_same_22 rfl rfl ?_
      refine x_icmp_ne 30 DX12_same_23 (by decide) (fun c_23 => ?_) (fun c_23 => ?_)
      · refine x_iconst 0 DX12_same_30 (by decide) ?_
        refine x_iadd DX12_same_31 ?_
        exact x_ireturn DX12_same_32 rfl ⟨by grind [sSame], rfl, rfl, rfl⟩
      · refine x_iconst 1 DX12_same_26 (by decide) ?_
        refine x_goto 31 DX12_same_27 (by decide) ?_
        refine x_iadd DX12_same_31 ?_
        exact x_ireturn DX12_same_32 rfl ⟨by grind [sSame], rfl, rfl, rfl⟩
  · refine x_iconst 1 DX12_same_5 (by decide) ?_
    refine x_goto 10 DX12_same_6 (by decide) ?_
    refine x_iload_n 1 DX12_same_10 rfl rfl ?_
    refine x_iload_n 3 DX12_same_11 rfl rfl ?_
    refine x_icmp_ne 19 DX12_same_12 (by decide) (fun c_12 => ?_) (fun c_12 => ?_)
    · refine x_iconst 0 DX12_same_19 (by decide) ?_
      refine x_iadd DX12_same_20 ?_
      refine x_iload_n 2 DX12_same_21 rfl rfl ?_
      refine x_iload_n 3 DX12_same_22 rfl rfl ?_
      refine x_icmp_ne 30 DX12_same_23 (by decide) (fun c_23 => ?_) (fun c_23 => ?_)
      · refine x_iconst 0 DX12_same_30 (by decide) ?_
        refine x_iadd DX12_same_31 ?_
        exact x_ireturn DX12_same_32 rfl ⟨by grind [sSame], rfl, rfl, rfl⟩
      · refine x_iconst 1 DX12_same_26 (by decide) ?_
        refine x_goto 31 DX12_same_27 (by decide) ?_
        refine x_iadd DX12_same_31 ?_
        exact x_ireturn DX12_same_32 rfl ⟨by grind [sSame], rfl, rfl, rfl⟩
    · refine x_iconst 1 DX12_same_15 (by decide) ?_
      refine x_goto 20 DX12_same_16 (by decide) ?_
      refine x_iadd DX12_same_20 ?_
      refine x_iload_n 2 DX12_same_21 rfl rfl ?_
      refine x_iload_n 3 DX12_same_22 rfl rfl ?_
      refine x_icmp_ne 30 DX12_same_23 (by decide) (fun c_23 => ?_) (fun c_23 => ?_)
      · refine x_iconst 0 DX12_same_30 (by decide) ?_
        refine x_iadd DX12_same_31 ?_
        exact x_ireturn DX12_same_32 rfl ⟨by grind [sSame], rfl, rfl, rfl⟩
      · refine x_iconst 1 DX12_same_26 (by decide) ?_
        refine x_goto 31 DX12_same_27 (by decide) ?_
        refine x_iadd DX12_same_31 ?_
        exact x_ireturn DX12_same_32 rfl ⟨by grind [sSame], rfl, rfl, rfl⟩
theorem m_adds (K : gK) (kind s a b c : Int32) (ι : gIm) (ρ : gRm) (Λ : gLm) (hF : gFix ρ Λ) (nr : Nat) (hR : ι 40 5 = nI nr) (hr : nr < 200) : gCe K 1 0 0 jX12_adds [vR 40, vI kind, vI s, vI a, vI b, vI c] ι ρ Λ (some (vI (nI nr))) (mAdds ι nr kind s a b c) ρ Λ := by
  refine gC_of (by decide) (nle rfl) ?_
  refine x_aload_n 0 DX12_adds_0 rfl rfl ?_
  refine x_getr 19 (some 52) DX12_adds_1 (Or.inr F12_44) rfl rfl (hF.1 40 19 52 rfl) ?_
  refine x_aload_n 0 DX12_adds_4 rfl rfl ?_
  refine x_geti (v := (nI nr)) 5 DX12_adds_5 (Or.inl F12_168) rfl rfl hR ?_
  refine x_iload_n 1 DX12_adds_8 rfl rfl ?_
  refine x_iast nr (nI_cl1 (by omega)) DX12_adds_9 rfl (gIn.fx hF (c := 52) (n := 200) rfl (gIn_nI (by omega) (by omega))) (fun ι9 e_ι9 => ?_)
  refine x_aload_n 0 DX12_adds_10 rfl rfl ?_
  refine x_getr 20 (some 53) DX12_adds_11 (Or.inr F12_47) rfl rfl (hF.1 40 20 53 rfl) ?_
  refine x_aload_n 0 DX12_adds_14 rfl rfl ?_
  refine x_geti (v := (nI nr)) 5 DX12_adds_15 (Or.inl F12_168) rfl rfl ((rd1 e_ι9 (by decide)).trans hR) ?_
  refine x_iload_n 2 DX12_adds_18 rfl rfl ?_
  refine x_iast nr (nI_cl1 (by omega)) DX12_adds_19 rfl (gIn.fx hF (c := 53) (n := 200) rfl (gIn_nI (by omega) (by omega))) (fun ι19 e_ι19 => ?_)
  refine x_aload_n 0 DX12_adds_20 rfl rfl ?_
  refine x_getr 21 (some 54) DX12_adds_21 (Or.inr F12_50) rfl rfl (hF.1 40 21 54 rfl) ?_
  refine x_aload_n 0 DX12_adds_24 rfl rfl ?_
  refine x_geti (v := (nI nr)) 5 DX12_adds_25 (Or.inl F12_168) rfl rfl (((rd1 e_ι19 (by decide)).trans (rd1 e_ι9 (by decide))).trans hR) ?_
  refine x_aload_n 0 DX12_adds_28 rfl rfl ?_
  refine x_geti (v := (ι 40 2)) 2 DX12_adds_29 (Or.inl F12_162) rfl rfl ((rd1 e_ι19 (by decide)).trans (rd1 e_ι9 (by decide))) ?_
  refine x_iast nr (nI_cl1 (by omega)) DX12_adds_32 rfl (gIn.fx hF (c := 54) (n := 200) rfl (gIn_nI (by omega) (by omega))) (fun ι32 e_ι32 => ?_)
  refine x_aload_n 0 DX12_adds_33 rfl rfl ?_
  refine x_getr 22 (some 55) DX12_adds_34 (Or.inr F12_53) rfl rfl (hF.1 40 22 55 rfl) ?_
  refine x_aload_n 0 DX12_adds_37 rfl rfl ?_
  refine x_geti (v := (nI nr)) 5 DX12_adds_38 (Or.inl F12_168) rfl rfl ((((rd1 e_ι32 (by decide)).trans (rd1 e_ι19 (by decide))).trans (rd1 e_ι9 (by decide))).trans hR) ?_
  refine x_bipush (-9) DX12_adds_41 (by decide) ?_
  refine x_iast nr (nI_cl1 (by omega)) DX12_adds_43 rfl (gIn.fx hF (c := 55) (n := 200) rfl (gIn_nI (by omega) (by omega))) (fun ι43 e_ι43 => ?_)
  refine x_aload_n 0 DX12_adds_44 rfl rfl ?_
  refine x_getr 23 (some 56) DX12_adds_45 (Or.inr F12_56) rfl rfl (hF.1 40 23 56 rfl) ?_
  refine x_iconst 3 DX12_adds_48 (by decide) ?_
  refine x_aload_n 0 DX12_adds_49 rfl rfl ?_
  refine x_geti (v := (nI nr)) 5 DX12_adds_50 (Or.inl F12_168) rfl rfl (((((rd1 e_ι43 (by decide)).trans (rd1 e_ι32 (by decide))).trans (rd1 e_ι19 (by decide))).trans (rd1 e_ι9 (by decide))).trans hR) ?_
  refine x_imul DX12_adds_53 ?_
  refine x_iload_n 3 DX12_adds_54 rfl rfl ?_
  refine x_iast (3 * nr) (eq_nat (i3_0 nr) (by omega)) DX12_adds_55 rfl (gIn.fx hF (c := 56) (n := 600) rfl (eq_gin (i3_0 nr) (by omega) (by omega))) (fun ι55 e_ι55 => ?_)
  refine x_aload_n 0 DX12_adds_56 rfl rfl ?_
  refine x_getr 23 (some 56) DX12_adds_57 (Or.inr F12_56) rfl rfl (hF.1 40 23 56 rfl) ?_
  refine x_iconst 3 DX12_adds_60 (by decide) ?_
  refine x_aload_n 0 DX12_adds_61 rfl rfl ?_
  refine x_geti (v := (nI nr)) 5 DX12_adds_62 (Or.inl F12_168) rfl rfl ((((((rd1 e_ι55 (by decide)).trans (rd1 e_ι43 (by decide))).trans (rd1 e_ι32 (by decide))).trans (rd1 e_ι19 (by decide))).trans (rd1 e_ι9 (by decide))).trans hR) ?_
  refine x_imul DX12_adds_65 ?_
  refine x_iconst 1 DX12_adds_66 (by decide) ?_
  refine x_iadd DX12_adds_67 ?_
  refine x_iload DX12_adds_68 rfl ?_
  refine x_iast (3 * nr + 1) (eq_nat (i3_1 nr) (by omega)) DX12_adds_70 rfl (gIn.fx hF (c := 56) (n := 600) rfl (eq_gin (i3_1 nr) (by omega) (by omega))) (fun ι70 e_ι70 => ?_)
  refine x_aload_n 0 DX12_adds_71 rfl rfl ?_
  refine x_getr 23 (some 56) DX12_adds_72 (Or.inr F12_56) rfl rfl (hF.1 40 23 56 rfl) ?_
  refine x_iconst 3 DX12_adds_75 (by decide) ?_
  refine x_aload_n 0 DX12_adds_76 rfl rfl ?_
  refine x_geti (v := (nI nr)) 5 DX12_adds_77 (Or.inl F12_168) rfl rfl (((((((rd1 e_ι70 (by decide)).trans (rd1 e_ι55 (by decide))).trans (rd1 e_ι43 (by decide))).trans (rd1 e_ι32 (by decide))).trans (rd1 e_ι19 (by decide))).trans (rd1 e_ι9 (by decide))).trans hR) ?_
  refine x_imul DX12_adds_80 ?_
  refine x_iconst 2 DX12_adds_81 (by decide) ?_
  refine x_iadd DX12_adds_82 ?_
  refine x_iload DX12_adds_83 rfl ?_
  refine x_iast (3 * nr + 2) (eq_nat (i3_2 nr) (by omega)) DX12_adds_85 rfl (gIn.fx hF (c := 56) (n := 600) rfl (eq_gin (i3_2 nr) (by omega) (by omega))) (fun ι85 e_ι85 => ?_)
  refine x_aload_n 0 DX12_adds_86 rfl rfl ?_
  refine x_dup DX12_adds_87 ?_
  refine x_geti (v := (nI nr)) 5 DX12_adds_88 (Or.inl F12_168) rfl rfl ((((((((rd1 e_ι85 (by decide)).trans (rd1 e_ι70 (by decide))).trans (rd1 e_ι55 (by decide))).trans (rd1 e_ι43 (by decide))).trans (rd1 e_ι32 (by decide))).trans (rd1 e_ι19 (by decide))).trans (rd1 e_ι9 (by decide))).trans hR) ?_
  refine x_iconst 1 DX12_adds_91 (by decide) ?_
  refine x_iadd DX12_adds_92 ?_
  refine x_puti 5 DX12_adds_93 F12_168 rfl (Or.inl rfl) rfl (fun ι93 e_ι93 => ?_)
  refine x_aload_n 0 DX12_adds_96 rfl rfl ?_
  refine x_geti (v := ((nI nr) + 1)) 5 DX12_adds_97 (Or.inl F12_168) rfl rfl (rdv e_ι93) ?_
  refine x_iconst 1 DX12_adds_100 (by decide) ?_
  refine x_isub DX12_adds_101 ?_
  exact x_ireturn DX12_adds_102 rfl ⟨by rw [Int32.add_sub_cancel], by subst_vars; rfl, rfl, rfl⟩
theorem m_small (K : gK) (a b c : Int32) (ι : gIm) (ρ : gRm) (Λ : gLm) (hF : gFix ρ Λ) (nh : Nat) (hH : ι 40 4 = nI nh) (hn : nh ≤ 24) (nr : Nat) (hR : ι 40 5 = nI nr) (hr : nr ≤ 200) : gCe K 3 0 0 jX12_small [vR 40, vI a, vI b, vI c] ι ρ Λ (some (vI (rs (cSmall a b c (nI nh) (sCords (ι 51 a.toNatClampNeg) (ι 46 a.toNatClampNeg) (ι 48 a.toNatClampNeg)) (sCords (ι 51 b.toNatClampNeg) (ι 46 b.toNatClampNeg) (ι 48 b.toNatClampNeg)) (sCords (ι 51 c.toNatClampNeg) (ι 46 c.toNatClampNeg) (ι 48 c.toNatClampNeg)) (nI nr)) (nI nr)))) (rsM (cSmall a b c (nI nh) (sCords (ι 51 a.toNatClampNeg) (ι 46 a.toNatClampNeg) (ι 48 a.toNatClampNeg)) (sCords (ι 51 b.toNatClampNeg) (ι 46 b.toNatClampNeg) (ι 48 b.toNatClampNeg)) (sCords (ι 51 c.toNatClampNeg) (ι 46 c.toNatClampNeg) (ι 48 c.toNatClampNeg)) (nI nr)) 41 ι (mSmall ι nr a b c)) ρ Λ := by
  refine gC_of (by decide) (nle rfl) ?_
  refine x_aload_n 0 DX12_small_0 rfl rfl ?_
  refine x_iload_n 1 DX12_small_1 rfl rfl ?_
  refine x_Ve (ci := 12) (av := [vI a]) (rest := []) (st' := [vI (b2i (0 ≤ a ∧ a < ι 40 4))]) 0 0 DX12_small_2 L12_148 rfl rfl rfl rfl rfl ⟨nle rfl, nle rfl, nle rfl⟩ ⟨rfl, nle rfl⟩ ⟨rfl, nle rfl⟩ (m_isHouse K a ι ρ Λ hF) rfl ?_
  refine x_if_eq_b 24 DX12_small_5 (by decide) (fun c_5 => ?_) (fun c_5 => ?_)
  · refine x_aload_n 0 DX12_small_24 rfl rfl ?_
    refine x_iconst (-1) DX12_small_25 (by decide) ?_
    refine x_Ve (ci := 12) (av := [vI (-1)]) (rest := []) (st' := [vI (-1)]) 0 0 DX12_small_26 L12_120 rfl rfl rfl rfl rfl ⟨nle rfl, nle rfl, nle rfl⟩ ⟨rfl, nle rfl⟩ ⟨rfl, nle rfl⟩ (m_refuse K (-1) ι ρ Λ hF ⟨by decide, by decide⟩) rfl ?_
    refine x_nmι (fun ι26 e_ι26 => ?_)
    exact x_ireturn DX12_small_29 rfl ⟨by grind [cSmall, rs], by grind [cSmall, rsM], rfl, rfl⟩
  · refine x_aload_n 0 DX12_small_8 rfl rfl ?_
    refine x_iload_n 2 DX12_small_9 rfl rfl ?_
    refine x_Ve (ci := 12) (av := [vI b]) (rest := []) (st' := [vI (b2i (0 ≤ b ∧ b < ι 40 4))]) 0 0 DX12_small_10 L12_148 rfl rfl rfl rfl rfl ⟨nle rfl, nle rfl, nle rfl⟩ ⟨rfl, nle rfl⟩ ⟨rfl, nle rfl⟩ (m_isHouse K b ι ρ Λ hF) rfl ?_
    refine x_if_eq_b 24 DX12_small_13 (by decide) (fun c_13 => ?_) (fun c_13 => ?_)
    · refine x_aload_n 0 DX12_small_24 rfl rfl ?_
      refine x_iconst (-1) DX12_small_25 (by decide) ?_
      refine x_Ve (ci := 12) (av := [vI (-1)]) (rest := []) (st' := [vI (-1)]) 0 0 DX12_small_26 L12_120 rfl rfl rfl rfl rfl ⟨nle rfl, nle rfl, nle rfl⟩ ⟨rfl, nle rfl⟩ ⟨rfl, nle rfl⟩ (m_refuse K (-1) ι ρ Λ hF ⟨by decide, by decide⟩) rfl ?_
      refine x_nmι (fun ι26 e_ι26 => ?_)
      exact x_ireturn DX12_small_29 rfl ⟨by grind [cSmall, rs], by grind [cSmall, rsM], rfl, rfl⟩
    · refine x_aload_n 0 DX12_small_16 rfl rfl ?_
      refine x_iload_n 3 DX12_small_17 rfl rfl ?_
      refine x_Ve (ci := 12) (av := [vI c]) (rest := []) (st' := [vI (b2i (0 ≤ c ∧ c < ι 40 4))]) 0 0 DX12_small_18 L12_148 rfl rfl rfl rfl rfl ⟨nle rfl, nle rfl, nle rfl⟩ ⟨rfl, nle rfl⟩ ⟨rfl, nle rfl⟩ (m_isHouse K c ι ρ Λ hF) rfl ?_
      refine x_if_ne_b 30 DX12_small_21 (by decide) (fun c_21 => ?_) (fun c_21 => ?_)
      · refine x_aload_n 0 DX12_small_30 rfl rfl ?_
        refine x_iload_n 1 DX12_small_31 rfl rfl ?_
        refine x_Ve (ci := 12) (av := [vI a]) (rest := []) (st' := [vI (sCords (ι 51 a.toNatClampNeg) (ι 46 a.toNatClampNeg) (ι 48 a.toNatClampNeg))]) 0 0 DX12_small_32 L12_171 rfl rfl rfl rfl rfl ⟨nle rfl, nle rfl, nle rfl⟩ ⟨rfl, nle rfl⟩ ⟨rfl, nle rfl⟩ (m_cordsLeft K a ι ρ Λ hF (gIn_nn (m := 24) (k := a) (n := nh) (by rw [← hH]; assumption) hn (by omega))) rfl ?_
        refine x_iload_n 1 DX12_small_35 rfl rfl ?_
        refine x_iload_n 2 DX12_small_36 rfl rfl ?_
        refine x_iload_n 3 DX12_small_37 rfl rfl ?_
        refine x_iload_n 1 DX12_small_38 rfl rfl ?_
        refine x_Se (av := [vI a, vI b, vI c, vI a]) (rest := [vI (sCords (ι 51 a.toNatClampNeg) (ι 46 a.toNatClampNeg) (ι 48 a.toNatClampNeg))]) (st' := [vI (sSame a b c a), vI (sCords (ι 51 a.toNatClampNeg) (ι 46 a.toNatClampNeg) (ι 48 a.toNatClampNeg))]) 0 0 DX12_small_39 L12_174 rfl rfl ⟨nle rfl, nle rfl, nle rfl⟩ ⟨rfl, nle rfl⟩ ⟨rfl, nle rfl⟩ (m_same K a b c a ι ρ Λ) rfl ?_
        refine x_icmp_lt 75 DX12_small_42 (by decide) (fun c_42 => ?_) (fun c_42 => ?_)
        · refine x_aload_n 0 DX12_small_75 rfl rfl ?_
          refine x_bipush (-3) DX12_small_76 (by decide) ?_
          refine x_Ve (ci := 12) (av := [vI (-3)]) (rest := []) (st' := [vI (-3)]) 0 0 DX12_small_78 L12_120 rfl rfl rfl rfl rfl ⟨nle rfl, nle rfl, nle rfl⟩ ⟨rfl, nle rfl⟩ ⟨rfl, nle rfl⟩ (m_refuse K (-3) ι ρ Λ hF ⟨by decide, by decide⟩) rfl ?_
          refine x_nmι (fun ι78 e_ι78 => ?_)
          exact x_ireturn DX12_small_81 rfl ⟨by grind [cSmall, rs], by grind [cSmall, rsM], rfl, rfl⟩
        · refine x_aload_n 0 DX12_small_45 rfl rfl ?_
          refine x_iload_n 2 DX12_small_46 rfl rfl ?_
          refine x_Ve (ci := 12) (av := [vI b]) (rest := []) (st' := [vI (sCords (ι 51 b.toNatClampNeg) (ι 46 b.toNatClampNeg) (ι 48 b.toNatClampNeg))]) 0 0 DX12_small_47 L12_171 rfl rfl rfl rfl rfl ⟨nle rfl, nle rfl, nle rfl⟩ ⟨rfl, nle rfl⟩ ⟨rfl, nle rfl⟩ (m_cordsLeft K b ι ρ Λ hF (gIn_nn (m := 24) (k := b) (n := nh) (by rw [← hH]; assumption) hn (by omega))) rfl ?_
          refine x_iload_n 1 DX12_small_50 rfl rfl ?_
          refine x_iload_n 2 DX12_small_51 rfl rfl ?_
          refine x_iload_n 3 DX12_small_52 rfl rfl ?_
          refine x_iload_n 2 DX12_small_53 rfl rfl ?_
          refine x_Se (av := [vI a, vI b, vI c, vI b]) (rest := [vI (sCords (ι 51 b.toNatClampNeg) (ι 46 b.toNatClampNeg) (ι 48 b.toNatClampNeg))]) (st' := [vI (sSame a b c b), vI (sCords (ι 51 b.toNatClampNeg) (ι 46 b.toNatClampNeg) (ι 48 b.toNatClampNeg))]) 0 0 DX12_small_54 L12_174 rfl rfl ⟨nle rfl, nle rfl, nle rfl⟩ ⟨rfl, nle rfl⟩ ⟨rfl, nle rfl⟩ (m_same K a b c b ι ρ Λ) rfl ?_
          refine x_icmp_lt 75 DX12_small_57 (by decide) (fun c_57 => ?_) (fun c_57 => ?_)
          · refine x_aload_n 0 DX12_small_75 rfl rfl ?_
            refine x_bipush (-3) DX12_small_76 (by decide) ?_
            refine x_Ve (ci := 12) (av := [vI (-3)]) (rest := []) (st' := [vI (-3)]) 0 0 DX12_small_78 L12_120 rfl rfl rfl rfl rfl ⟨nle rfl, nle rfl, nle rfl⟩ ⟨rfl, nle rfl⟩ ⟨rfl, nle rfl⟩ (m_refuse K (-3) ι ρ Λ hF ⟨by decide, by decide⟩) rfl ?_
            refine x_nmι (fun ι78 e_ι78 => ?_)
            exact x_ireturn DX12_small_81 rfl ⟨by grind [cSmall, rs], by grind [cSmall, rsM], rfl, rfl⟩
          · refine x_aload_n 0 DX12_small_60 rfl rfl ?_
            refine x_iload_n 3 DX12_small_61 rfl rfl ?_
            refine x_Ve (ci := 12) (av := [vI c]) (rest := []) (st' := [vI (sCords (ι 51 c.toNatClampNeg) (ι 46 c.toNatClampNeg) (ι 48 c.toNatClampNeg))]) 0 0 DX12_small_62 L12_171 rfl rfl rfl rfl rfl ⟨nle rfl, nle rfl, nle rfl⟩ ⟨rfl, nle rfl⟩ ⟨rfl, nle rfl⟩ (m_cordsLeft K c ι ρ Λ hF (gIn_nn (m := 24) (k := c) (n := nh) (by rw [← hH]; assumption) hn (by omega))) rfl ?_
            refine x_iload_n 1 DX12_small_65 rfl rfl ?_
            refine x_iload_n 2 DX12_small_66 rfl rfl ?_
            refine x_iload_n 3 DX12_small_67 rfl rfl ?_
            refine x_iload_n 3 DX12_small_68 rfl rfl ?_
            refine x_Se (av := [vI a, vI b, vI c, vI c]) (rest := [vI (sCords (ι 51 c.toNatClampNeg) (ι 46 c.toNatClampNeg) (ι 48 c.toNatClampNeg))]) (st' := [vI (sSame a b c c), vI (sCords (ι 51 c.toNatClampNeg) (ι 46 c.toNatClampNeg) (ι 48 c.toNatClampNeg))]) 0 0 DX12_small_69 L12_174 rfl rfl ⟨nle rfl, nle rfl, nle rfl⟩ ⟨rfl, nle rfl⟩ ⟨rfl, nle rfl⟩ (m_same K a b c c ι ρ Λ) rfl ?_
            refine x_icmp_ge 82 DX12_small_72 (by decide) (fun c_72 => ?_) (fun c_72 => ?_)
            · refine x_aload_n 0 DX12_small_82 rfl rfl ?_
              refine x_geti (v := (nI nr)) 5 DX12_small_83 (Or.inl F12_168) rfl rfl hR ?_
              refine x_sipush 200 DX12_small_86 (by decide) ?_
              refine x_icmp_ne 99 DX12_small_89 (by decide) (fun c_89 => ?_) (fun c_89 => ?_)
              · refine x_aload_n 0 DX12_small_99 rfl rfl ?_
                refine x_getr 15 (some 48) DX12_small_100 (Or.inr F12_31) rfl rfl (hF.1 40 15 48 rfl) ?_
                refine x_iload_n 1 DX12_small_103 rfl rfl ?_
                refine x_dup2 DX12_small_104 ?_
                refine x_iald (v := (ι 48 a.toNatClampNeg)) a.toNatClampNeg rfl DX12_small_105 rfl (gIn.fx hF (c := 48) (n := 24) rfl (gIn_nn (m := 24) (k := a) (n := nh) (by rw [← hH]; assumption) hn (by omega))) rfl ?_
                refine x_iconst 1 DX12_small_106 (by decide) ?_
                refine x_iadd DX12_small_107 ?_
                refine x_iast a.toNatClampNeg rfl DX12_small_108 rfl (gIn.fx hF (c := 48) (n := 24) rfl (gIn_nn (m := 24) (k := a) (n := nh) (by rw [← hH]; assumption) hn (by omega))) (fun ι108 e_ι108 => ?_)
                refine x_aload_n 0 DX12_small_109 rfl rfl ?_
                refine x_getr 15 (some 48) DX12_small_110 (Or.inr F12_31) rfl rfl (hF.1 40 15 48 rfl) ?_
                refine x_iload_n 2 DX12_small_113 rfl rfl ?_
                refine x_dup2 DX12_small_114 ?_
                refine x_iald (v := (ι108 48 b.toNatClampNeg)) b.toNatClampNeg rfl DX12_small_115 rfl (gIn.fx hF (c := 48) (n := 24) rfl (gIn_nn (m := 24) (k := b) (n := nh) (by rw [← hH]; assumption) hn (by omega))) rfl ?_
                refine x_iconst 1 DX12_small_116 (by decide) ?_
                refine x_iadd DX12_small_117 ?_
                refine x_iast b.toNatClampNeg rfl DX12_small_118 rfl (gIn.fx hF (c := 48) (n := 24) rfl (gIn_nn (m := 24) (k := b) (n := nh) (by rw [← hH]; assumption) hn (by omega))) (fun ι118 e_ι118 => ?_)
                refine x_aload_n 0 DX12_small_119 rfl rfl ?_
                refine x_getr 15 (some 48) DX12_small_120 (Or.inr F12_31) rfl rfl (hF.1 40 15 48 rfl) ?_
                refine x_iload_n 3 DX12_small_123 rfl rfl ?_
                refine x_dup2 DX12_small_124 ?_
                refine x_iald (v := (ι118 48 c.toNatClampNeg)) c.toNatClampNeg rfl DX12_small_125 rfl (gIn.fx hF (c := 48) (n := 24) rfl (gIn_nn (m := 24) (k := c) (n := nh) (by rw [← hH]; assumption) hn (by omega))) rfl ?_
                refine x_iconst 1 DX12_small_126 (by decide) ?_
                refine x_iadd DX12_small_127 ?_
                refine x_iast c.toNatClampNeg rfl DX12_small_128 rfl (gIn.fx hF (c := 48) (n := 24) rfl (gIn_nn (m := 24) (k := c) (n := nh) (by rw [← hH]; assumption) hn (by omega))) (fun ι128 e_ι128 => ?_)
                refine x_aload_n 0 DX12_small_129 rfl rfl ?_
                refine x_getr 24 (some 57) DX12_small_130 (Or.inr F12_59) rfl rfl (hF.1 40 24 57 rfl) ?_
                refine x_iconst 3 DX12_small_133 (by decide) ?_
                refine x_aload_n 0 DX12_small_134 rfl rfl ?_
                refine x_geti (v := (nI nr)) 5 DX12_small_135 (Or.inl F12_168) rfl rfl ((((rd1 e_ι128 (by decide)).trans (rd1 e_ι118 (by decide))).trans (rd1 e_ι108 (by decide))).trans hR) ?_
                refine x_imul DX12_small_138 ?_
                refine x_aload_n 0 DX12_small_139 rfl rfl ?_
                refine x_getr 12 (some 45) DX12_small_140 (Or.inr F12_22) rfl rfl (hF.1 40 12 45 rfl) ?_
                refine x_iload_n 1 DX12_small_143 rfl rfl ?_
                refine x_iald (v := (ι 45 a.toNatClampNeg)) a.toNatClampNeg rfl DX12_small_144 rfl (gIn.fx hF (c := 45) (n := 24) rfl (gIn_nn (m := 24) (k := a) (n := nh) (by rw [← hH]; assumption) hn (by omega))) (((rd1 e_ι128 (by decide)).trans (rd1 e_ι118 (by decide))).trans (rd1 e_ι108 (by decide))) ?_
                refine x_iast (3 * nr) (eq_nat (i3_0 nr) (by omega)) DX12_small_145 rfl (gIn.fx hF (c := 57) (n := 600) rfl (eq_gin (i3_0 nr) (by have := rope_lt (by assumption) hr; omega) (by omega))) (fun ι145 e_ι145 => ?_)
                refine x_aload_n 0 DX12_small_146 rfl rfl ?_
                refine x_getr 24 (some 57) DX12_small_147 (Or.inr F12_59) rfl rfl (hF.1 40 24 57 rfl) ?_
                refine x_iconst 3 DX12_small_150 (by decide) ?_
                refine x_aload_n 0 DX12_small_151 rfl rfl ?_
                refine x_geti (v := (nI nr)) 5 DX12_small_152 (Or.inl F12_168) rfl rfl (((((rd1 e_ι145 (by decide)).trans (rd1 e_ι128 (by decide))).trans (rd1 e_ι118 (by decide))).trans (rd1 e_ι108 (by decide))).trans hR) ?_
                refine x_imul DX12_small_155 ?_
                refine x_iconst 1 DX12_small_156 (by decide) ?_
                refine x_iadd DX12_small_157 ?_
                refine x_aload_n 0 DX12_small_158 rfl rfl ?_
                refine x_getr 12 (some 45) DX12_small_159 (Or.inr F12_22) rfl rfl (hF.1 40 12 45 rfl) ?_
                refine x_iload_n 2 DX12_small_162 rfl rfl ?_
                refine x_iald (v := (ι 45 b.toNatClampNeg)) b.toNatClampNeg rfl DX12_small_163 rfl (gIn.fx hF (c := 45) (n := 24) rfl (gIn_nn (m := 24) (k := b) (n := nh) (by rw [← hH]; assumption) hn (by omega))) ((((rd1 e_ι145 (by decide)).trans (rd1 e_ι128 (by decide))).trans (rd1 e_ι118 (by decide))).trans (rd1 e_ι108 (by decide))) ?_
                refine x_iast (3 * nr + 1) (eq_nat (i3_1 nr) (by omega)) DX12_small_164 rfl (gIn.fx hF (c := 57) (n := 600) rfl (eq_gin (i3_1 nr) (by have := rope_lt (by assumption) hr; omega) (by omega))) (fun ι164 e_ι164 => ?_)
                refine x_aload_n 0 DX12_small_165 rfl rfl ?_
                refine x_getr 24 (some 57) DX12_small_166 (Or.inr F12_59) rfl rfl (hF.1 40 24 57 rfl) ?_
                refine x_iconst 3 DX12_small_169 (by decide) ?_
                refine x_aload_n 0 DX12_small_170 rfl rfl ?_
                refine x_geti (v := (nI nr)) 5 DX12_small_171 (Or.inl F12_168) rfl rfl ((((((rd1 e_ι164 (by decide)).trans (rd1 e_ι145 (by decide))).trans (rd1 e_ι128 (by decide))).trans (rd1 e_ι118 (by decide))).trans (rd1 e_ι108 (by decide))).trans hR) ?_
                refine x_imul DX12_small_174 ?_
                refine x_iconst 2 DX12_small_175 (by decide) ?_
                refine x_iadd DX12_small_176 ?_
                refine x_aload_n 0 DX12_small_177 rfl rfl ?_
                refine x_getr 12 (some 45) DX12_small_178 (Or.inr F12_22) rfl rfl (hF.1 40 12 45 rfl) ?_
                refine x_iload_n 3 DX12_small_181 rfl rfl ?_
                refine x_iald (v := (ι 45 c.toNatClampNeg)) c.toNatClampNeg rfl DX12_small_182 rfl (gIn.fx hF (c := 45) (n := 24) rfl (gIn_nn (m := 24) (k := c) (n := nh) (by rw [← hH]; assumption) hn (by omega))) (((((rd1 e_ι164 (by decide)).trans (rd1 e_ι145 (by decide))).trans (rd1 e_ι128 (by decide))).trans (rd1 e_ι118 (by decide))).trans (rd1 e_ι108 (by decide))) ?_
                refine x_iast (3 * nr + 2) (eq_nat (i3_2 nr) (by omega)) DX12_small_183 rfl (gIn.fx hF (c := 57) (n := 600) rfl (eq_gin (i3_2 nr) (by have := rope_lt (by assumption) hr; omega) (by omega))) (fun ι183 e_ι183 => ?_)
                refine x_aload_n 0 DX12_small_184 rfl rfl ?_
                refine x_iconst 0 DX12_small_185 (by decide) ?_
                refine x_aload_n 0 DX12_small_186 rfl rfl ?_
                refine x_getr 12 (some 45) DX12_small_187 (Or.inr F12_22) rfl rfl (hF.1 40 12 45 rfl) ?_
                refine x_iload_n 1 DX12_small_190 rfl rfl ?_
                refine x_iald (v := (ι 45 a.toNatClampNeg)) a.toNatClampNeg rfl DX12_small_191 rfl (gIn.fx hF (c := 45) (n := 24) rfl (gIn_nn (m := 24) (k := a) (n := nh) (by rw [← hH]; assumption) hn (by omega))) ((((((rd1 e_ι183 (by decide)).trans (rd1 e_ι164 (by decide))).trans (rd1 e_ι145 (by decide))).trans (rd1 e_ι128 (by decide))).trans (rd1 e_ι118 (by decide))).trans (rd1 e_ι108 (by decide))) ?_
                refine x_aload_n 0 DX12_small_192 rfl rfl ?_
                refine x_getr 12 (some 45) DX12_small_193 (Or.inr F12_22) rfl rfl (hF.1 40 12 45 rfl) ?_
                refine x_iload_n 2 DX12_small_196 rfl rfl ?_
                refine x_iald (v := (ι 45 b.toNatClampNeg)) b.toNatClampNeg rfl DX12_small_197 rfl (gIn.fx hF (c := 45) (n := 24) rfl (gIn_nn (m := 24) (k := b) (n := nh) (by rw [← hH]; assumption) hn (by omega))) ((((((rd1 e_ι183 (by decide)).trans (rd1 e_ι164 (by decide))).trans (rd1 e_ι145 (by decide))).trans (rd1 e_ι128 (by decide))).trans (rd1 e_ι118 (by decide))).trans (rd1 e_ι108 (by decide))) ?_
                refine x_aload_n 0 DX12_small_198 rfl rfl ?_
                refine x_getr 12 (some 45) DX12_small_199 (Or.inr F12_22) rfl rfl (hF.1 40 12 45 rfl) ?_
                refine x_iload_n 3 DX12_small_202 rfl rfl ?_
                refine x_iald (v := (ι 45 c.toNatClampNeg)) c.toNatClampNeg rfl DX12_small_203 rfl (gIn.fx hF (c := 45) (n := 24) rfl (gIn_nn (m := 24) (k := c) (n := nh) (by rw [← hH]; assumption) hn (by omega))) ((((((rd1 e_ι183 (by decide)).trans (rd1 e_ι164 (by decide))).trans (rd1 e_ι145 (by decide))).trans (rd1 e_ι128 (by decide))).trans (rd1 e_ι118 (by decide))).trans (rd1 e_ι108 (by decide))) ?_
                refine x_Se (av := [vI (ι 45 b.toNatClampNeg), vI (ι 45 c.toNatClampNeg)]) (rest := [vI (ι 45 a.toNatClampNeg), vI 0, vR 40]) (st' := [vI (imin (ι 45 b.toNatClampNeg) (ι 45 c.toNatClampNeg)), vI (ι 45 a.toNatClampNeg), vI 0, vR 40]) 0 0 DX12_small_204 L12_178 rfl rfl ⟨nle rfl, nle rfl, nle rfl⟩ ⟨rfl, nle rfl⟩ ⟨rfl, nle rfl⟩ (j_min K (ι 45 b.toNatClampNeg) (ι 45 c.toNatClampNeg) ι183 ρ Λ) rfl ?_
                refine x_Se (av := [vI (ι 45 a.toNatClampNeg), vI (imin (ι 45 b.toNatClampNeg) (ι 45 c.toNatClampNeg))]) (rest := [vI 0, vR 40]) (st' := [vI (imin (ι 45 a.toNatClampNeg) (imin (ι 45 b.toNatClampNeg) (ι 45 c.toNatClampNeg))), vI 0, vR 40]) 0 0 DX12_small_207 L12_178 rfl rfl ⟨nle rfl, nle rfl, nle rfl⟩ ⟨rfl, nle rfl⟩ ⟨rfl, nle rfl⟩ (j_min K (ι 45 a.toNatClampNeg) (imin (ι 45 b.toNatClampNeg) (ι 45 c.toNatClampNeg)) ι183 ρ Λ) rfl ?_
                refine x_iload_n 1 DX12_small_210 rfl rfl ?_
                refine x_iload_n 2 DX12_small_211 rfl rfl ?_
                refine x_iload_n 3 DX12_small_212 rfl rfl ?_
                refine x_Ve (ci := 12) (av := [vI 0, vI (imin (ι 45 a.toNatClampNeg) (imin (ι 45 b.toNatClampNeg) (ι 45 c.toNatClampNeg))), vI a, vI b, vI c]) (rest := []) (st' := [vI (nI nr)]) 0 0 DX12_small_213 L12_181 rfl rfl rfl rfl rfl ⟨nle rfl, nle rfl, nle rfl⟩ ⟨rfl, nle rfl⟩ ⟨rfl, nle rfl⟩ (m_adds K 0 (imin (ι 45 a.toNatClampNeg) (imin (ι 45 b.toNatClampNeg) (ι 45 c.toNatClampNeg))) a b c ι183 ρ Λ hF nr (((((((rd1 e_ι183 (by decide)).trans (rd1 e_ι164 (by decide))).trans (rd1 e_ι145 (by decide))).trans (rd1 e_ι128 (by decide))).trans (rd1 e_ι118 (by decide))).trans (rd1 e_ι108 (by decide))).trans hR) (rope_lt (by assumption) hr)) rfl ?_
                refine x_nmι (fun ι213 e_ι213 => ?_)
                exact x_ireturn DX12_small_216 rfl ⟨by rw [rs, if_pos (by grind [cSmall])], by rw [rsM, if_pos (by grind [cSmall])]; subst_vars; rfl, rfl, rfl⟩
              · refine x_aload_n 0 DX12_small_92 rfl rfl ?_
                refine x_bipush (-6) DX12_small_93 (by decide) ?_
                refine x_Ve (ci := 12) (av := [vI (-6)]) (rest := []) (st' := [vI (-6)]) 0 0 DX12_small_95 L12_120 rfl rfl rfl rfl rfl ⟨nle rfl, nle rfl, nle rfl⟩ ⟨rfl, nle rfl⟩ ⟨rfl, nle rfl⟩ (m_refuse K (-6) ι ρ Λ hF ⟨by decide, by decide⟩) rfl ?_
                refine x_nmι (fun ι95 e_ι95 => ?_)
                exact x_ireturn DX12_small_98 rfl ⟨by grind [cSmall, rs], by grind [cSmall, rsM], rfl, rfl⟩
            · refine x_aload_n 0 DX12_small_75 rfl rfl ?_
              refine x_bipush (-3) DX12_small_76 (by decide) ?_
              refine x_Ve (ci := 12) (av := [vI (-3)]) (rest := []) (st' := [vI (-3)]) 0 0 DX12_small_78 L12_120 rfl rfl rfl rfl rfl ⟨nle rfl, nle rfl, nle rfl⟩ ⟨rfl, nle rfl⟩ ⟨rfl, nle rfl⟩ (m_refuse K (-3) ι ρ Λ hF ⟨by decide, by decide⟩) rfl ?_
              refine x_nmι (fun ι78 e_ι78 => ?_)
              exact x_ireturn DX12_small_81 rfl ⟨by grind [cSmall, rs], by grind [cSmall, rsM], rfl, rfl⟩
      · refine x_aload_n 0 DX12_small_24 rfl rfl ?_
        refine x_iconst (-1) DX12_small_25 (by decide) ?_
        refine x_Ve (ci := 12) (av := [vI (-1)]) (rest := []) (st' := [vI (-1)]) 0 0 DX12_small_26 L12_120 rfl rfl rfl rfl rfl ⟨nle rfl, nle rfl, nle rfl⟩ ⟨rfl, nle rfl⟩ ⟨rfl, nle rfl⟩ (m_refuse K (-1) ι ρ Λ hF ⟨by decide, by decide⟩) rfl ?_
        refine x_nmι (fun ι26 e_ι26 => ?_)
        exact x_ireturn DX12_small_29 rfl ⟨by grind [cSmall, rs], by grind [cSmall, rsM], rfl, rfl⟩
theorem m_lay (K : gK) (a b c : Int32) (ι : gIm) (ρ : gRm) (Λ : gLm) (hF : gFix ρ Λ) (nr : Nat) (hR : ι 40 5 = nI nr) (hr : nr ≤ 200) : gCe K 3 0 0 jX12_lay [vR 40, vI a, vI b, vI c] ι ρ Λ (some (vI (rs (cLay a b c (nI nr) (ι 52 a.toNatClampNeg) (ι 52 b.toNatClampNeg) (ι 52 c.toNatClampNeg) (sFree (ι 58 a.toNatClampNeg) (ι 54 a.toNatClampNeg) (ι 40 2)) (sFree (ι 58 b.toNatClampNeg) (ι 54 b.toNatClampNeg) (ι 40 2)) (sFree (ι 58 c.toNatClampNeg) (ι 54 c.toNatClampNeg) (ι 40 2)) (nI nr)) (nI nr)))) (rsM (cLay a b c (nI nr) (ι 52 a.toNatClampNeg) (ι 52 b.toNatClampNeg) (ι 52 c.toNatClampNeg) (sFree (ι 58 a.toNatClampNeg) (ι 54 a.toNatClampNeg) (ι 40 2)) (sFree (ι 58 b.toNatClampNeg) (ι 54 b.toNatClampNeg) (ι 40 2)) (sFree (ι 58 c.toNatClampNeg) (ι 54 c.toNatClampNeg) (ι 40 2)) (nI nr)) 41 ι (mLay ι nr a b c)) ρ Λ := by
  refine gC_of (by decide) (nle rfl) ?_
  refine x_aload_n 0 DX12_lay_0 rfl rfl ?_
  refine x_iload_n 1 DX12_lay_1 rfl rfl ?_
  refine x_Ve (ci := 12) (av := [vI a]) (rest := []) (st' := [vI (b2i (0 ≤ a ∧ a < ι 40 5))]) 0 0 DX12_lay_2 L12_185 rfl rfl rfl rfl rfl ⟨nle rfl, nle rfl, nle rfl⟩ ⟨rfl, nle rfl⟩ ⟨rfl, nle rfl⟩ (m_isRope K a ι ρ Λ hF) rfl ?_
  refine x_if_eq_b 39 DX12_lay_5 (by decide) (fun c_5 => ?_) (fun c_5 => ?_)
  · refine x_aload_n 0 DX12_lay_39 rfl rfl ?_
    refine x_iconst (-1) DX12_lay_40 (by decide) ?_
    refine x_Ve (ci := 12) (av := [vI (-1)]) (rest := []) (st' := [vI (-1)]) 0 0 DX12_lay_41 L12_120 rfl rfl rfl rfl rfl ⟨nle rfl, nle rfl, nle rfl⟩ ⟨rfl, nle rfl⟩ ⟨rfl, nle rfl⟩ (m_refuse K (-1) ι ρ Λ hF ⟨by decide, by decide⟩) rfl ?_
    refine x_nmι (fun ι41 e_ι41 => ?_)
    exact x_ireturn DX12_lay_44 rfl ⟨by grind [cLay, rs, sFree], by grind [cLay, rsM, sFree], rfl, rfl⟩
  · refine x_aload_n 0 DX12_lay_8 rfl rfl ?_
    refine x_iload_n 2 DX12_lay_9 rfl rfl ?_
    refine x_Ve (ci := 12) (av := [vI b]) (rest := []) (st' := [vI (b2i (0 ≤ b ∧ b < ι 40 5))]) 0 0 DX12_lay_10 L12_185 rfl rfl rfl rfl rfl ⟨nle rfl, nle rfl, nle rfl⟩ ⟨rfl, nle rfl⟩ ⟨rfl, nle rfl⟩ (m_isRope K b ι ρ Λ hF) rfl ?_
    refine x_if_eq_b 39 DX12_lay_13 (by decide) (fun c_13 => ?_) (fun c_13 => ?_)
    · refine x_aload_n 0 DX12_lay_39 rfl rfl ?_
      refine x_iconst (-1) DX12_lay_40 (by decide) ?_
      refine x_Ve (ci := 12) (av := [vI (-1)]) (rest := []) (st' := [vI (-1)]) 0 0 DX12_lay_41 L12_120 rfl rfl rfl rfl rfl ⟨nle rfl, nle rfl, nle rfl⟩ ⟨rfl, nle rfl⟩ ⟨rfl, nle rfl⟩ (m_refuse K (-1) ι ρ Λ hF ⟨by decide, by decide⟩) rfl ?_
      refine x_nmι (fun ι41 e_ι41 => ?_)
      exact x_ireturn DX12_lay_44 rfl ⟨by grind [cLay, rs, sFree], by grind [cLay, rsM, sFree], rfl, rfl⟩
    · refine x_aload_n 0 DX12_lay_16 rfl rfl ?_
      refine x_iload_n 3 DX12_lay_17 rfl rfl ?_
      refine x_Ve (ci := 12) (av := [vI c]) (rest := []) (st' := [vI (b2i (0 ≤ c ∧ c < ι 40 5))]) 0 0 DX12_lay_18 L12_185 rfl rfl rfl rfl rfl ⟨nle rfl, nle rfl, nle rfl⟩ ⟨rfl, nle rfl⟩ ⟨rfl, nle rfl⟩ (m_isRope K c ι ρ Λ hF) rfl ?_
      refine x_if_eq_b 39 DX12_lay_21 (by decide) (fun c_21 => ?_) (fun c_21 => ?_)
      · refine x_aload_n 0 DX12_lay_39 rfl rfl ?_
        refine x_iconst (-1) DX12_lay_40 (by decide) ?_
        refine x_Ve (ci := 12) (av := [vI (-1)]) (rest := []) (st' := [vI (-1)]) 0 0 DX12_lay_41 L12_120 rfl rfl rfl rfl rfl ⟨nle rfl, nle rfl, nle rfl⟩ ⟨rfl, nle rfl⟩ ⟨rfl, nle rfl⟩ (m_refuse K (-1) ι ρ Λ hF ⟨by decide, by decide⟩) rfl ?_
        refine x_nmι (fun ι41 e_ι41 => ?_)
        exact x_ireturn DX12_lay_44 rfl ⟨by grind [cLay, rs, sFree], by grind [cLay, rsM, sFree], rfl, rfl⟩
      · refine x_iload_n 1 DX12_lay_24 rfl rfl ?_
        refine x_iload_n 2 DX12_lay_25 rfl rfl ?_
        refine x_icmp_eq 39 DX12_lay_26 (by decide) (fun c_26 => ?_) (fun c_26 => ?_)
        · refine x_aload_n 0 DX12_lay_39 rfl rfl ?_
          refine x_iconst (-1) DX12_lay_40 (by decide) ?_
          refine x_Ve (ci := 12) (av := [vI (-1)]) (rest := []) (st' := [vI (-1)]) 0 0 DX12_lay_41 L12_120 rfl rfl rfl rfl rfl ⟨nle rfl, nle rfl, nle rfl⟩ ⟨rfl, nle rfl⟩ ⟨rfl, nle rfl⟩ (m_refuse K (-1) ι ρ Λ hF ⟨by decide, by decide⟩) rfl ?_
          refine x_nmι (fun ι41 e_ι41 => ?_)
          exact x_ireturn DX12_lay_44 rfl ⟨by grind [cLay, rs, sFree], by grind [cLay, rsM, sFree], rfl, rfl⟩
        · refine x_iload_n 2 DX12_lay_29 rfl rfl ?_
          refine x_iload_n 3 DX12_lay_30 rfl rfl ?_
          refine x_icmp_eq 39 DX12_lay_31 (by decide) (fun c_31 => ?_) (fun c_31 => ?_)
          · refine x_aload_n 0 DX12_lay_39 rfl rfl ?_
            refine x_iconst (-1) DX12_lay_40 (by decide) ?_
            refine x_Ve (ci := 12) (av := [vI (-1)]) (rest := []) (st' := [vI (-1)]) 0 0 DX12_lay_41 L12_120 rfl rfl rfl rfl rfl ⟨nle rfl, nle rfl, nle rfl⟩ ⟨rfl, nle rfl⟩ ⟨rfl, nle rfl⟩ (m_refuse K (-1) ι ρ Λ hF ⟨by decide, by decide⟩) rfl ?_
            refine x_nmι (fun ι41 e_ι41 => ?_)
            exact x_ireturn DX12_lay_44 rfl ⟨by grind [cLay, rs, sFree], by grind [cLay, rsM, sFree], rfl, rfl⟩
          · refine x_iload_n 1 DX12_lay_34 rfl rfl ?_
            refine x_iload_n 3 DX12_lay_35 rfl rfl ?_
            refine x_icmp_ne 45 DX12_lay_36 (by decide) (fun c_36 => ?_) (fun c_36 => ?_)
            · refine x_aload_n 0 DX12_lay_45 rfl rfl ?_
              refine x_getr 19 (some 52) DX12_lay_46 (Or.inr F12_44) rfl rfl (hF.1 40 19 52 rfl) ?_
              refine x_iload_n 1 DX12_lay_49 rfl rfl ?_
              refine x_iald (v := (ι 52 a.toNatClampNeg)) a.toNatClampNeg rfl DX12_lay_50 rfl (gIn.fx hF (c := 52) (n := 200) rfl (gIn_nn (m := 200) (k := a) (n := nr) (by rw [← hR]; assumption) hr (by omega))) rfl ?_
              refine x_aload_n 0 DX12_lay_51 rfl rfl ?_
              refine x_getr 19 (some 52) DX12_lay_52 (Or.inr F12_44) rfl rfl (hF.1 40 19 52 rfl) ?_
              refine x_iload_n 2 DX12_lay_55 rfl rfl ?_
              refine x_iald (v := (ι 52 b.toNatClampNeg)) b.toNatClampNeg rfl DX12_lay_56 rfl (gIn.fx hF (c := 52) (n := 200) rfl (gIn_nn (m := 200) (k := b) (n := nr) (by rw [← hR]; assumption) hr (by omega))) rfl ?_
              refine x_icmp_ne 85 DX12_lay_57 (by decide) (fun c_57 => ?_) (fun c_57 => ?_)
              · refine x_aload_n 0 DX12_lay_85 rfl rfl ?_
                refine x_bipush (-2) DX12_lay_86 (by decide) ?_
                refine x_Ve (ci := 12) (av := [vI (-2)]) (rest := []) (st' := [vI (-2)]) 0 0 DX12_lay_88 L12_120 rfl rfl rfl rfl rfl ⟨nle rfl, nle rfl, nle rfl⟩ ⟨rfl, nle rfl⟩ ⟨rfl, nle rfl⟩ (m_refuse K (-2) ι ρ Λ hF ⟨by decide, by decide⟩) rfl ?_
                refine x_nmι (fun ι88 e_ι88 => ?_)
                exact x_ireturn DX12_lay_91 rfl ⟨by grind [cLay, rs, sFree], by grind [cLay, rsM, sFree], rfl, rfl⟩
              · refine x_aload_n 0 DX12_lay_60 rfl rfl ?_
                refine x_getr 19 (some 52) DX12_lay_61 (Or.inr F12_44) rfl rfl (hF.1 40 19 52 rfl) ?_
                refine x_iload_n 2 DX12_lay_64 rfl rfl ?_
                refine x_iald (v := (ι 52 b.toNatClampNeg)) b.toNatClampNeg rfl DX12_lay_65 rfl (gIn.fx hF (c := 52) (n := 200) rfl (gIn_nn (m := 200) (k := b) (n := nr) (by rw [← hR]; assumption) hr (by omega))) rfl ?_
                refine x_aload_n 0 DX12_lay_66 rfl rfl ?_
                refine x_getr 19 (some 52) DX12_lay_67 (Or.inr F12_44) rfl rfl (hF.1 40 19 52 rfl) ?_
                refine x_iload_n 3 DX12_lay_70 rfl rfl ?_
                refine x_iald (v := (ι 52 c.toNatClampNeg)) c.toNatClampNeg rfl DX12_lay_71 rfl (gIn.fx hF (c := 52) (n := 200) rfl (gIn_nn (m := 200) (k := c) (n := nr) (by rw [← hR]; assumption) hr (by omega))) rfl ?_
                refine x_icmp_ne 85 DX12_lay_72 (by decide) (fun c_72 => ?_) (fun c_72 => ?_)
                · refine x_aload_n 0 DX12_lay_85 rfl rfl ?_
                  refine x_bipush (-2) DX12_lay_86 (by decide) ?_
                  refine x_Ve (ci := 12) (av := [vI (-2)]) (rest := []) (st' := [vI (-2)]) 0 0 DX12_lay_88 L12_120 rfl rfl rfl rfl rfl ⟨nle rfl, nle rfl, nle rfl⟩ ⟨rfl, nle rfl⟩ ⟨rfl, nle rfl⟩ (m_refuse K (-2) ι ρ Λ hF ⟨by decide, by decide⟩) rfl ?_
                  refine x_nmι (fun ι88 e_ι88 => ?_)
                  exact x_ireturn DX12_lay_91 rfl ⟨by grind [cLay, rs, sFree], by grind [cLay, rsM, sFree], rfl, rfl⟩
                · refine x_aload_n 0 DX12_lay_75 rfl rfl ?_
                  refine x_getr 19 (some 52) DX12_lay_76 (Or.inr F12_44) rfl rfl (hF.1 40 19 52 rfl) ?_
                  refine x_iload_n 1 DX12_lay_79 rfl rfl ?_
                  refine x_iald (v := (ι 52 a.toNatClampNeg)) a.toNatClampNeg rfl DX12_lay_80 rfl (gIn.fx hF (c := 52) (n := 200) rfl (gIn_nn (m := 200) (k := a) (n := nr) (by rw [← hR]; assumption) hr (by omega))) rfl ?_
                  refine x_iconst 2 DX12_lay_81 (by decide) ?_
                  refine x_icmp_ne 92 DX12_lay_82 (by decide) (fun c_82 => ?_) (fun c_82 => ?_)
                  · refine x_aload_n 0 DX12_lay_92 rfl rfl ?_
                    refine x_iload_n 1 DX12_lay_93 rfl rfl ?_
                    refine x_Ve (ci := 12) (av := [vI a]) (rest := []) (st' := [vI (sFree (ι 58 a.toNatClampNeg) (ι 54 a.toNatClampNeg) (ι 40 2))]) 0 0 DX12_lay_94 L12_188 rfl rfl rfl rfl rfl ⟨nle rfl, nle rfl, nle rfl⟩ ⟨rfl, nle rfl⟩ ⟨rfl, nle rfl⟩ (m_isFree K a ι ρ Λ hF (gIn_nn (m := 200) (k := a) (n := nr) (by rw [← hR]; assumption) hr (by omega))) rfl ?_
                    refine x_if_eq 116 DX12_lay_97 (by decide) (fun c_97 => ?_) (fun c_97 => ?_)
                    · refine x_aload_n 0 DX12_lay_116 rfl rfl ?_
                      refine x_bipush (-3) DX12_lay_117 (by decide) ?_
                      refine x_Ve (ci := 12) (av := [vI (-3)]) (rest := []) (st' := [vI (-3)]) 0 0 DX12_lay_119 L12_120 rfl rfl rfl rfl rfl ⟨nle rfl, nle rfl, nle rfl⟩ ⟨rfl, nle rfl⟩ ⟨rfl, nle rfl⟩ (m_refuse K (-3) ι ρ Λ hF ⟨by decide, by decide⟩) rfl ?_
                      refine x_nmι (fun ι119 e_ι119 => ?_)
                      exact x_ireturn DX12_lay_122 rfl ⟨by grind [cLay, rs, sFree], by grind [cLay, rsM, sFree], rfl, rfl⟩
                    · refine x_aload_n 0 DX12_lay_100 rfl rfl ?_
                      refine x_iload_n 2 DX12_lay_101 rfl rfl ?_
                      refine x_Ve (ci := 12) (av := [vI b]) (rest := []) (st' := [vI (sFree (ι 58 b.toNatClampNeg) (ι 54 b.toNatClampNeg) (ι 40 2))]) 0 0 DX12_lay_102 L12_188 rfl rfl rfl rfl rfl ⟨nle rfl, nle rfl, nle rfl⟩ ⟨rfl, nle rfl⟩ ⟨rfl, nle rfl⟩ (m_isFree K b ι ρ Λ hF (gIn_nn (m := 200) (k := b) (n := nr) (by rw [← hR]; assumption) hr (by omega))) rfl ?_
                      refine x_if_eq 116 DX12_lay_105 (by decide) (fun c_105 => ?_) (fun c_105 => ?_)
                      · refine x_aload_n 0 DX12_lay_116 rfl rfl ?_
                        refine x_bipush (-3) DX12_lay_117 (by decide) ?_
                        refine x_Ve (ci := 12) (av := [vI (-3)]) (rest := []) (st' := [vI (-3)]) 0 0 DX12_lay_119 L12_120 rfl rfl rfl rfl rfl ⟨nle rfl, nle rfl, nle rfl⟩ ⟨rfl, nle rfl⟩ ⟨rfl, nle rfl⟩ (m_refuse K (-3) ι ρ Λ hF ⟨by decide, by decide⟩) rfl ?_
                        refine x_nmι (fun ι119 e_ι119 => ?_)
                        exact x_ireturn DX12_lay_122 rfl ⟨by grind [cLay, rs, sFree], by grind [cLay, rsM, sFree], rfl, rfl⟩
                      · refine x_aload_n 0 DX12_lay_108 rfl rfl ?_
                        refine x_iload_n 3 DX12_lay_109 rfl rfl ?_
                        refine x_Ve (ci := 12) (av := [vI c]) (rest := []) (st' := [vI (sFree (ι 58 c.toNatClampNeg) (ι 54 c.toNatClampNeg) (ι 40 2))]) 0 0 DX12_lay_110 L12_188 rfl rfl rfl rfl rfl ⟨nle rfl, nle rfl, nle rfl⟩ ⟨rfl, nle rfl⟩ ⟨rfl, nle rfl⟩ (m_isFree K c ι ρ Λ hF (gIn_nn (m := 200) (k := c) (n := nr) (by rw [← hR]; assumption) hr (by omega))) rfl ?_
                        refine x_if_ne 123 DX12_lay_113 (by decide) (fun c_113 => ?_) (fun c_113 => ?_)
                        · refine x_aload_n 0 DX12_lay_123 rfl rfl ?_
                          refine x_geti (v := (nI nr)) 5 DX12_lay_124 (Or.inl F12_168) rfl rfl hR ?_
                          refine x_sipush 200 DX12_lay_127 (by decide) ?_
                          refine x_icmp_ne 140 DX12_lay_130 (by decide) (fun c_130 => ?_) (fun c_130 => ?_)
                          · refine x_aload_n 0 DX12_lay_140 rfl rfl ?_
                            refine x_getr 25 (some 58) DX12_lay_141 (Or.inr F12_62) rfl rfl (hF.1 40 25 58 rfl) ?_
                            refine x_iload_n 1 DX12_lay_144 rfl rfl ?_
                            refine x_iconst 1 DX12_lay_145 (by decide) ?_
                            refine x_zast a.toNatClampNeg rfl DX12_lay_146 rfl (gIn.fx hF (c := 58) (n := 200) rfl (gIn_nn (m := 200) (k := a) (n := nr) (by rw [← hR]; assumption) hr (by omega))) (Or.inr rfl) (fun ι146 e_ι146 => ?_)
                            refine x_aload_n 0 DX12_lay_147 rfl rfl ?_
                            refine x_getr 25 (some 58) DX12_lay_148 (Or.inr F12_62) rfl rfl (hF.1 40 25 58 rfl) ?_
                            refine x_iload_n 2 DX12_lay_151 rfl rfl ?_
                            refine x_iconst 1 DX12_lay_152 (by decide) ?_
                            refine x_zast b.toNatClampNeg rfl DX12_lay_153 rfl (gIn.fx hF (c := 58) (n := 200) rfl (gIn_nn (m := 200) (k := b) (n := nr) (by rw [← hR]; assumption) hr (by omega))) (Or.inr rfl) (fun ι153 e_ι153 => ?_)
                            refine x_aload_n 0 DX12_lay_154 rfl rfl ?_
                            refine x_getr 25 (some 58) DX12_lay_155 (Or.inr F12_62) rfl rfl (hF.1 40 25 58 rfl) ?_
                            refine x_iload_n 3 DX12_lay_158 rfl rfl ?_
                            refine x_iconst 1 DX12_lay_159 (by decide) ?_
                            refine x_zast c.toNatClampNeg rfl DX12_lay_160 rfl (gIn.fx hF (c := 58) (n := 200) rfl (gIn_nn (m := 200) (k := c) (n := nr) (by rw [← hR]; assumption) hr (by omega))) (Or.inr rfl) (fun ι160 e_ι160 => ?_)
                            refine x_aload_n 0 DX12_lay_161 rfl rfl ?_
                            refine x_aload_n 0 DX12_lay_162 rfl rfl ?_
                            refine x_getr 19 (some 52) DX12_lay_163 (Or.inr F12_44) rfl rfl (hF.1 40 19 52 rfl) ?_
                            refine x_iload_n 1 DX12_lay_166 rfl rfl ?_
                            refine x_iald (v := (ι 52 a.toNatClampNeg)) a.toNatClampNeg rfl DX12_lay_167 rfl (gIn.fx hF (c := 52) (n := 200) rfl (gIn_nn (m := 200) (k := a) (n := nr) (by rw [← hR]; assumption) hr (by omega))) (((rd1 e_ι160 (by decide)).trans (rd1 e_ι153 (by decide))).trans (rd1 e_ι146 (by decide))) ?_
                            refine x_iconst 1 DX12_lay_168 (by decide) ?_
                            refine x_iadd DX12_lay_169 ?_
                            refine x_iconst 1 DX12_lay_170 (by decide) ?_
                            refine x_aload_n 0 DX12_lay_171 rfl rfl ?_
                            refine x_getr 20 (some 53) DX12_lay_172 (Or.inr F12_47) rfl rfl (hF.1 40 20 53 rfl) ?_
                            refine x_iload_n 1 DX12_lay_175 rfl rfl ?_
                            refine x_iald (v := (ι 53 a.toNatClampNeg)) a.toNatClampNeg rfl DX12_lay_176 rfl (gIn.fx hF (c := 53) (n := 200) rfl (gIn_nn (m := 200) (k := a) (n := nr) (by rw [← hR]; assumption) hr (by omega))) (((rd1 e_ι160 (by decide)).trans (rd1 e_ι153 (by decide))).trans (rd1 e_ι146 (by decide))) ?_
                            refine x_aload_n 0 DX12_lay_177 rfl rfl ?_
                            refine x_getr 20 (some 53) DX12_lay_178 (Or.inr F12_47) rfl rfl (hF.1 40 20 53 rfl) ?_
                            refine x_iload_n 2 DX12_lay_181 rfl rfl ?_
                            refine x_iald (v := (ι 53 b.toNatClampNeg)) b.toNatClampNeg rfl DX12_lay_182 rfl (gIn.fx hF (c := 53) (n := 200) rfl (gIn_nn (m := 200) (k := b) (n := nr) (by rw [← hR]; assumption) hr (by omega))) (((rd1 e_ι160 (by decide)).trans (rd1 e_ι153 (by decide))).trans (rd1 e_ι146 (by decide))) ?_
                            refine x_iadd DX12_lay_183 ?_
                            refine x_aload_n 0 DX12_lay_184 rfl rfl ?_
                            refine x_getr 20 (some 53) DX12_lay_185 (Or.inr F12_47) rfl rfl (hF.1 40 20 53 rfl) ?_
                            refine x_iload_n 3 DX12_lay_188 rfl rfl ?_
                            refine x_iald (v := (ι 53 c.toNatClampNeg)) c.toNatClampNeg rfl DX12_lay_189 rfl (gIn.fx hF (c := 53) (n := 200) rfl (gIn_nn (m := 200) (k := c) (n := nr) (by rw [← hR]; assumption) hr (by omega))) (((rd1 e_ι160 (by decide)).trans (rd1 e_ι153 (by decide))).trans (rd1 e_ι146 (by decide))) ?_
                            refine x_iadd DX12_lay_190 ?_
                            refine x_iconst 2 DX12_lay_191 (by decide) ?_
                            refine x_isub DX12_lay_192 ?_
                            refine x_Se (av := [vI 1, vI ((((ι 53 a.toNatClampNeg) + (ι 53 b.toNatClampNeg)) + (ι 53 c.toNatClampNeg)) - 2)]) (rest := [vI ((ι 52 a.toNatClampNeg) + 1), vR 40]) (st' := [vI (imax 1 ((((ι 53 a.toNatClampNeg) + (ι 53 b.toNatClampNeg)) + (ι 53 c.toNatClampNeg)) - 2)), vI ((ι 52 a.toNatClampNeg) + 1), vR 40]) 0 0 DX12_lay_193 L12_135 rfl rfl ⟨nle rfl, nle rfl, nle rfl⟩ ⟨rfl, nle rfl⟩ ⟨rfl, nle rfl⟩ (j_max K 1 ((((ι 53 a.toNatClampNeg) + (ι 53 b.toNatClampNeg)) + (ι 53 c.toNatClampNeg)) - 2) ι160 ρ Λ) rfl ?_
                            refine x_iload_n 1 DX12_lay_196 rfl rfl ?_
                            refine x_iload_n 2 DX12_lay_197 rfl rfl ?_
                            refine x_iload_n 3 DX12_lay_198 rfl rfl ?_
                            refine x_Ve (ci := 12) (av := [vI ((ι 52 a.toNatClampNeg) + 1), vI (imax 1 ((((ι 53 a.toNatClampNeg) + (ι 53 b.toNatClampNeg)) + (ι 53 c.toNatClampNeg)) - 2)), vI a, vI b, vI c]) (rest := []) (st' := [vI (nI nr)]) 0 0 DX12_lay_199 L12_181 rfl rfl rfl rfl rfl ⟨nle rfl, nle rfl, nle rfl⟩ ⟨rfl, nle rfl⟩ ⟨rfl, nle rfl⟩ (m_adds K ((ι 52 a.toNatClampNeg) + 1) (imax 1 ((((ι 53 a.toNatClampNeg) + (ι 53 b.toNatClampNeg)) + (ι 53 c.toNatClampNeg)) - 2)) a b c ι160 ρ Λ hF nr ((((rd1 e_ι160 (by decide)).trans (rd1 e_ι153 (by decide))).trans (rd1 e_ι146 (by decide))).trans hR) (rope_lt (by assumption) hr)) rfl ?_
                            refine x_nmι (fun ι199 e_ι199 => ?_)
                            exact x_ireturn DX12_lay_202 rfl ⟨by rw [rs, if_pos (by grind [cLay, sFree])], by rw [rsM, if_pos (by grind [cLay, sFree])]; subst_vars; rfl, rfl, rfl⟩
                          · refine x_aload_n 0 DX12_lay_133 rfl rfl ?_
                            refine x_bipush (-6) DX12_lay_134 (by decide) ?_
                            refine x_Ve (ci := 12) (av := [vI (-6)]) (rest := []) (st' := [vI (-6)]) 0 0 DX12_lay_136 L12_120 rfl rfl rfl rfl rfl ⟨nle rfl, nle rfl, nle rfl⟩ ⟨rfl, nle rfl⟩ ⟨rfl, nle rfl⟩ (m_refuse K (-6) ι ρ Λ hF ⟨by decide, by decide⟩) rfl ?_
                            refine x_nmι (fun ι136 e_ι136 => ?_)
                            exact x_ireturn DX12_lay_139 rfl ⟨by grind [cLay, rs, sFree], by grind [cLay, rsM, sFree], rfl, rfl⟩
                        · refine x_aload_n 0 DX12_lay_116 rfl rfl ?_
                          refine x_bipush (-3) DX12_lay_117 (by decide) ?_
                          refine x_Ve (ci := 12) (av := [vI (-3)]) (rest := []) (st' := [vI (-3)]) 0 0 DX12_lay_119 L12_120 rfl rfl rfl rfl rfl ⟨nle rfl, nle rfl, nle rfl⟩ ⟨rfl, nle rfl⟩ ⟨rfl, nle rfl⟩ (m_refuse K (-3) ι ρ Λ hF ⟨by decide, by decide⟩) rfl ?_
                          refine x_nmι (fun ι119 e_ι119 => ?_)
                          exact x_ireturn DX12_lay_122 rfl ⟨by grind [cLay, rs, sFree], by grind [cLay, rsM, sFree], rfl, rfl⟩
                  · refine x_aload_n 0 DX12_lay_85 rfl rfl ?_
                    refine x_bipush (-2) DX12_lay_86 (by decide) ?_
                    refine x_Ve (ci := 12) (av := [vI (-2)]) (rest := []) (st' := [vI (-2)]) 0 0 DX12_lay_88 L12_120 rfl rfl rfl rfl rfl ⟨nle rfl, nle rfl, nle rfl⟩ ⟨rfl, nle rfl⟩ ⟨rfl, nle rfl⟩ (m_refuse K (-2) ι ρ Λ hF ⟨by decide, by decide⟩) rfl ?_
                    refine x_nmι (fun ι88 e_ι88 => ?_)
                    exact x_ireturn DX12_lay_91 rfl ⟨by grind [cLay, rs, sFree], by grind [cLay, rsM, sFree], rfl, rfl⟩
            · refine x_aload_n 0 DX12_lay_39 rfl rfl ?_
              refine x_iconst (-1) DX12_lay_40 (by decide) ?_
              refine x_Ve (ci := 12) (av := [vI (-1)]) (rest := []) (st' := [vI (-1)]) 0 0 DX12_lay_41 L12_120 rfl rfl rfl rfl rfl ⟨nle rfl, nle rfl, nle rfl⟩ ⟨rfl, nle rfl⟩ ⟨rfl, nle rfl⟩ (m_refuse K (-1) ι ρ Λ hF ⟨by decide, by decide⟩) rfl ?_
              refine x_nmι (fun ι41 e_ι41 => ?_)
              exact x_ireturn DX12_lay_44 rfl ⟨by grind [cLay, rs, sFree], by grind [cLay, rsM, sFree], rfl, rfl⟩
theorem m_strands0 (K : gK) (h : Int32) (ι : gIm) (ρ : gRm) (Λ : gLm) (hF : gFix ρ Λ) (nr : Nat) (hr : nr ≤ 200) (hP : ∀ r i, r < nr → i < 3 → ¬ ι 52 r = 0 → ∃ q, q < nr ∧ ι 56 (3 * r + i) = nI q ∧ ι 52 q + 1 = ι 52 r) (r : Nat) (hrr : r < nr) (hk : ι 52 r = nI 0) : gCe K (0 + 1) 0 0 jX12_strandsOf [vR 40, vI (nI r), vI h] ι ρ Λ (some (vI (sStr (ι 52) (ι 56) 0 r h))) ι ρ Λ := by
  refine gC_of (by decide) (nle rfl) ?_
  refine x_iconst 0 DX12_strandsOf_0 (by decide) ?_
  refine x_istore_n 3 (lv' := [some (vR 40), some (vI (nI r)), some (vI h), some (vI 0), none, none]) DX12_strandsOf_1 rfl ⟨nlt rfl, nlt rfl⟩ rfl ?_
  refine x_iconst 0 DX12_strandsOf_2 (by decide) ?_
  refine x_istore (lv' := [some (vR 40), some (vI (nI r)), some (vI h), some (vI 0), some (vI 0), none]) DX12_strandsOf_3 ⟨nlt rfl, nlt rfl⟩ rfl ?_
  refine x_lv (lv' := [some (vR 40), some (vI (nI r)), some (vI h), some (vI 0), some (vI (nI 0)), none]) (lvS (lvS (lvS (lvS (lvI nI_0.symm (lvS rfl)))))) ?_
  refine lp0 (W := fun i a => gX K none (0 + 1) 0 0 jX12_strandsOf 5 [some (vR 40), some (vI (nI r)), some (vI h), some (vI a), some (vI (nI i)), none] [] 0 0 ι ρ Λ _) (fun i a => a + (if ι 56 (3 * r + i) = h then 1 else 0)) 3 (fun i a hi ih => ?_) 0 0 (by omega) ?_
  · refine x_iload DX12_strandsOf_5 rfl ?_
    refine x_iconst 3 DX12_strandsOf_7 (by decide) ?_
    refine x_icmp_ge 63 DX12_strandsOf_8 (by decide) (fun c_8 => False.elim (by rw [show (3 : Int32) = nI 3 from rfl, nI_le1 (by omega) (by omega)] at c_8; omega)) (fun c_8 => ?_)
    refine x_aload_n 0 DX12_strandsOf_11 rfl rfl ?_
    refine x_getr 23 (some 56) DX12_strandsOf_12 (Or.inr F12_56) rfl rfl (hF.1 40 23 56 rfl) ?_
    refine x_iconst 3 DX12_strandsOf_15 (by decide) ?_
    refine x_iload_n 1 DX12_strandsOf_16 rfl rfl ?_
    refine x_imul DX12_strandsOf_17 ?_
    refine x_iload DX12_strandsOf_18 rfl ?_
    refine x_iadd DX12_strandsOf_20 ?_
    refine x_iald (v := (ι 56 (3 * r + i))) (3 * r + i) (eq_nat (i3_i r i) (by omega)) DX12_strandsOf_21 rfl (gIn.fx hF (c := 56) (n := 600) rfl (eq_gin (i3_i r i) (by omega) (by omega))) rfl ?_
    refine x_istore (lv' := [some (vR 40), some (vI (nI r)), some (vI h), some (vI a), some (vI (nI i)), some (vI (ι 56 (3 * r + i)))]) DX12_strandsOf_22 ⟨nlt rfl, nlt rfl⟩ rfl ?_
    refine x_iload_n 3 DX12_strandsOf_24 rfl rfl ?_
    refine x_aload_n 0 DX12_strandsOf_25 rfl rfl ?_
    refine x_getr 19 (some 52) DX12_strandsOf_26 (Or.inr F12_44) rfl rfl (hF.1 40 19 52 rfl) ?_
    refine x_iload_n 1 DX12_strandsOf_29 rfl rfl ?_
    refine x_iald (v := (ι 52 r)) r (nI_cl1 (by omega)) DX12_strandsOf_30 rfl (gIn.fx hF (c := 52) (n := 200) rfl (gIn_nI (by omega) (by omega))) rfl ?_
    refine x_if_ne 48 DX12_strandsOf_31 (by decide) (fun c_31 => False.elim (c_31 (by rw [hk]; rfl))) (fun c_31 => ?_)
    refine x_iload DX12_strandsOf_34 rfl ?_
    refine x_iload_n 2 DX12_strandsOf_36 rfl rfl ?_
    refine x_icmp_ne 44 DX12_strandsOf_37 (by decide) (fun c_37 => ?_) (fun c_37 => ?_)
    · refine x_iconst 0 DX12_strandsOf_44 (by decide) ?_
      refine x_goto 55 DX12_strandsOf_45 (by decide) ?_
      refine x_iadd DX12_strandsOf_55 ?_
      refine x_istore_n 3 (lv' := [some (vR 40), some (vI (nI r)), some (vI h), some (vI (a + 0)), some (vI (nI i)), some (vI (ι 56 (3 * r + i)))]) DX12_strandsOf_56 rfl ⟨nlt rfl, nlt rfl⟩ rfl ?_
      refine x_iinc ((nI i) + 1) (lv' := [some (vR 40), some (vI (nI r)), some (vI h), some (vI (a + 0)), some (vI ((nI i) + 1)), some (vI (ι 56 (3 * r + i)))]) DX12_strandsOf_57 rfl rfl (nlt rfl) rfl ?_
      refine x_goto 5 DX12_strandsOf_60 (by decide) ?_
      refine x_lv (lv' := [some (vR 40), some (vI (nI r)), some (vI h), some (vI (a + (if ι 56 (3 * r + i) = h then 1 else 0))), some (vI (nI (i + 1))), some (vI (ι 56 (3 * r + i)))]) (lvS (lvS (lvS (lvI (by grind []) (lvI (nI_1 i) (lvS rfl)))))) ?_
      refine x_less (lv' := [some (vR 40), some (vI (nI r)), some (vI h), some (vI (a + (if ι 56 (3 * r + i) = h then 1 else 0))), some (vI (nI (i + 1))), none]) (less_ok (m := [true, true, true, true, true, false]) rfl) ?_
      exact ih
    · refine x_iconst 1 DX12_strandsOf_40 (by decide) ?_
      refine x_goto 55 DX12_strandsOf_41 (by decide) ?_
      refine x_iadd DX12_strandsOf_55 ?_
      refine x_istore_n 3 (lv' := [some (vR 40), some (vI (nI r)), some (vI h), some (vI (a + 1)), some (vI (nI i)), some (vI (ι 56 (3 * r + i)))]) DX12_strandsOf_56 rfl ⟨nlt rfl, nlt rfl⟩ rfl ?_
      refine x_iinc ((nI i) + 1) (lv' := [some (vR 40), some (vI (nI r)), some (vI h), some (vI (a + 1)), some (vI ((nI i) + 1)), some (vI (ι 56 (3 * r + i)))]) DX12_strandsOf_57 rfl rfl (nlt rfl) rfl ?_
      refine x_goto 5 DX12_strandsOf_60 (by decide) ?_
      refine x_lv (lv' := [some (vR 40), some (vI (nI r)), some (vI h), some (vI (a + (if ι 56 (3 * r + i) = h then 1 else 0))), some (vI (nI (i + 1))), some (vI (ι 56 (3 * r + i)))]) (lvS (lvS (lvS (lvI (by grind []) (lvI (nI_1 i) (lvS rfl)))))) ?_
      refine x_less (lv' := [some (vR 40), some (vI (nI r)), some (vI h), some (vI (a + (if ι 56 (3 * r + i) = h then 1 else 0))), some (vI (nI (i + 1))), none]) (less_ok (m := [true, true, true, true, true, false]) rfl) ?_
      exact ih
  · show gX K none (0 + 1) 0 0 jX12_strandsOf 5 [some (vR 40), some (vI (nI r)), some (vI h), some (vI (sStr (ι 52) (ι 56) 0 r h)), some (vI (nI 3)), none] [] 0 0 ι ρ Λ _
    refine x_iload DX12_strandsOf_5 rfl ?_
    refine x_iconst 3 DX12_strandsOf_7 (by decide) ?_
    refine x_icmp_ge 63 DX12_strandsOf_8 (by decide) (fun c_8 => ?_) (fun c_8 => False.elim (c_8 (by rw [show (3 : Int32) = nI 3 from rfl]; exact nI_le (by omega) (by omega))))
    refine x_iload_n 3 DX12_strandsOf_63 rfl rfl ?_
    exact x_ireturn DX12_strandsOf_64 rfl ⟨rfl, rfl, rfl, rfl⟩
theorem m_strandsS (K : gK) (d : Nat) (h : Int32) (ι : gIm) (ρ : gRm) (Λ : gLm) (hF : gFix ρ Λ) (nr : Nat) (hr : nr ≤ 200) (hP : ∀ r i, r < nr → i < 3 → ¬ ι 52 r = 0 → ∃ q, q < nr ∧ ι 56 (3 * r + i) = nI q ∧ ι 52 q + 1 = ι 52 r) (ihd : ∀ r, r < nr → ι 52 r = nI d → gCe K (d + 1) 0 0 jX12_strandsOf [vR 40, vI (nI r), vI h] ι ρ Λ (some (vI (sStr (ι 52) (ι 56) d r h))) ι ρ Λ) (hd : d < 100) (r : Nat) (hrr : r < nr) (hk : ι 52 r = nI (d + 1)) : gCe K (d + 1 + 1) 0 0 jX12_strandsOf [vR 40, vI (nI r), vI h] ι ρ Λ (some (vI (sStr (ι 52) (ι 56) (d + 1) r h))) ι ρ Λ := by
  refine gC_of (by decide) (nle rfl) ?_
  refine x_iconst 0 DX12_strandsOf_0 (by decide) ?_
  refine x_istore_n 3 (lv' := [some (vR 40), some (vI (nI r)), some (vI h), some (vI 0), none, none]) DX12_strandsOf_1 rfl ⟨nlt rfl, nlt rfl⟩ rfl ?_
  refine x_iconst 0 DX12_strandsOf_2 (by decide) ?_
  refine x_istore (lv' := [some (vR 40), some (vI (nI r)), some (vI h), some (vI 0), some (vI 0), none]) DX12_strandsOf_3 ⟨nlt rfl, nlt rfl⟩ rfl ?_
  refine x_lv (lv' := [some (vR 40), some (vI (nI r)), some (vI h), some (vI 0), some (vI (nI 0)), none]) (lvS (lvS (lvS (lvS (lvI nI_0.symm (lvS rfl)))))) ?_
  refine lp0 (W := fun i a => gX K none (d + 1 + 1) 0 0 jX12_strandsOf 5 [some (vR 40), some (vI (nI r)), some (vI h), some (vI a), some (vI (nI i)), none] [] 0 0 ι ρ Λ _) (fun i a => a + sStr (ι 52) (ι 56) d (ι 56 (3 * r + i)).toNatClampNeg h) 3 (fun i a hi ih => ?_) 0 0 (by omega) ?_
  · refine x_iload DX12_strandsOf_5 rfl ?_
    refine x_iconst 3 DX12_strandsOf_7 (by decide) ?_
    refine x_icmp_ge 63 DX12_strandsOf_8 (by decide) (fun c_8 => False.elim (by rw [show (3 : Int32) = nI 3 from rfl, nI_le1 (by omega) (by omega)] at c_8; omega)) (fun c_8 => ?_)
    refine x_aload_n 0 DX12_strandsOf_11 rfl rfl ?_
    refine x_getr 23 (some 56) DX12_strandsOf_12 (Or.inr F12_56) rfl rfl (hF.1 40 23 56 rfl) ?_
    refine x_iconst 3 DX12_strandsOf_15 (by decide) ?_
    refine x_iload_n 1 DX12_strandsOf_16 rfl rfl ?_
    refine x_imul DX12_strandsOf_17 ?_
    refine x_iload DX12_strandsOf_18 rfl ?_
    refine x_iadd DX12_strandsOf_20 ?_
    refine x_iald (v := (ι 56 (3 * r + i))) (3 * r + i) (eq_nat (i3_i r i) (by omega)) DX12_strandsOf_21 rfl (gIn.fx hF (c := 56) (n := 600) rfl (eq_gin (i3_i r i) (by omega) (by omega))) rfl ?_
    refine x_istore (lv' := [some (vR 40), some (vI (nI r)), some (vI h), some (vI a), some (vI (nI i)), some (vI (ι 56 (3 * r + i)))]) DX12_strandsOf_22 ⟨nlt rfl, nlt rfl⟩ rfl ?_
    refine x_iload_n 3 DX12_strandsOf_24 rfl rfl ?_
    refine x_aload_n 0 DX12_strandsOf_25 rfl rfl ?_
    refine x_getr 19 (some 52) DX12_strandsOf_26 (Or.inr F12_44) rfl rfl (hF.1 40 19 52 rfl) ?_
    refine x_iload_n 1 DX12_strandsOf_29 rfl rfl ?_
    refine x_iald (v := (ι 52 r)) r (nI_cl1 (by omega)) DX12_strandsOf_30 rfl (gIn.fx hF (c := 52) (n := 200) rfl (gIn_nI (by omega) (by omega))) rfl ?_
    refine x_if_ne 48 DX12_strandsOf_31 (by decide) (fun c_31 => ?_) (fun c_31 => False.elim (nI_ne0 (n := d + 1) (by omega) (by omega) (by rw [← hk]; exact c_31)))
    refine x_aload_n 0 DX12_strandsOf_48 rfl rfl ?_
    refine x_iload DX12_strandsOf_49 rfl ?_
    refine x_iload_n 2 DX12_strandsOf_51 rfl rfl ?_
    obtain ⟨q, hq, eq, kq⟩ := hP r i hrr hi (by rw [hk]; exact nI_ne0 (by omega) (by omega))
    have hkq : ι 52 q = nI d := by rw [hk, nI_succ] at kq; grind
    have g := ihd q hq hkq
    have eqn : (ι 56 (3 * r + i)).toNatClampNeg = q := eq_nat eq (by omega)
    rw [← eq, ← eqn] at g
    refine x_Ve (ci := 12) (av := [vI (ι 56 (3 * r + i)), vI h]) (rest := [vI a]) (st' := [vI (sStr (ι 52) (ι 56) d (ι 56 (3 * r + i)).toNatClampNeg h), vI a]) 0 0 DX12_strandsOf_52 L12_191 rfl rfl rfl rfl rfl ⟨Nat.le_refl _, nle rfl, nle rfl⟩ ⟨rfl, nle rfl⟩ ⟨rfl, nle rfl⟩ (g) rfl ?_
    refine x_iadd DX12_strandsOf_55 ?_
    refine x_istore_n 3 (lv' := [some (vR 40), some (vI (nI r)), some (vI h), some (vI (a + (sStr (ι 52) (ι 56) d (ι 56 (3 * r + i)).toNatClampNeg h))), some (vI (nI i)), some (vI (ι 56 (3 * r + i)))]) DX12_strandsOf_56 rfl ⟨nlt rfl, nlt rfl⟩ rfl ?_
    refine x_iinc ((nI i) + 1) (lv' := [some (vR 40), some (vI (nI r)), some (vI h), some (vI (a + (sStr (ι 52) (ι 56) d (ι 56 (3 * r + i)).toNatClampNeg h))), some (vI ((nI i) + 1)), some (vI (ι 56 (3 * r + i)))]) DX12_strandsOf_57 rfl rfl (nlt rfl) rfl ?_
    refine x_goto 5 DX12_strandsOf_60 (by decide) ?_
    refine x_lv (lv' := [some (vR 40), some (vI (nI r)), some (vI h), some (vI (a + sStr (ι 52) (ι 56) d (ι 56 (3 * r + i)).toNatClampNeg h)), some (vI (nI (i + 1))), some (vI (ι 56 (3 * r + i)))]) (lvS (lvS (lvS (lvI (by grind []) (lvI (nI_1 i) (lvS rfl)))))) ?_
    refine x_less (lv' := [some (vR 40), some (vI (nI r)), some (vI h), some (vI (a + sStr (ι 52) (ι 56) d (ι 56 (3 * r + i)).toNatClampNeg h)), some (vI (nI (i + 1))), none]) (less_ok (m := [true, true, true, true, true, false]) rfl) ?_
    exact ih
  · show gX K none (d + 1 + 1) 0 0 jX12_strandsOf 5 [some (vR 40), some (vI (nI r)), some (vI h), some (vI (sStr (ι 52) (ι 56) (d + 1) r h)), some (vI (nI 3)), none] [] 0 0 ι ρ Λ _
    refine x_iload DX12_strandsOf_5 rfl ?_
    refine x_iconst 3 DX12_strandsOf_7 (by decide) ?_
    refine x_icmp_ge 63 DX12_strandsOf_8 (by decide) (fun c_8 => ?_) (fun c_8 => False.elim (c_8 (by rw [show (3 : Int32) = nI 3 from rfl]; exact nI_le (by omega) (by omega))))
    refine x_iload_n 3 DX12_strandsOf_63 rfl rfl ?_
    exact x_ireturn DX12_strandsOf_64 rfl ⟨rfl, rfl, rfl, rfl⟩
theorem m_strandsOf (K : gK) (h : Int32) (ι : gIm) (ρ : gRm) (Λ : gLm) (hF : gFix ρ Λ) (nr : Nat) (hr : nr ≤ 200) (hP : ∀ r i, r < nr → i < 3 → ¬ ι 52 r = 0 → ∃ q, q < nr ∧ ι 56 (3 * r + i) = nI q ∧ ι 52 q + 1 = ι 52 r) : ∀ (d : Nat), d < 100 → ∀ r, r < nr → ι 52 r = nI d → gCe K (d + 1) 0 0 jX12_strandsOf [vR 40, vI (nI r), vI h] ι ρ Λ (some (vI (sStr (ι 52) (ι 56) d r h))) ι ρ Λ
  | 0, _, r, h1, h2 => m_strands0 K h ι ρ Λ hF nr hr hP r h1 h2
  | d + 1, hd, r, h1, h2 => m_strandsS K d h ι ρ Λ hF nr hr hP (m_strandsOf K h ι ρ Λ hF nr hr hP d (by omega)) (by omega) r h1 h2
theorem m_strandsOf2 (K : gK) (r h : Int32) (ι : gIm) (ρ : gRm) (Λ : gLm) (hF : gFix ρ Λ) (nr : Nat) (hr : nr ≤ 200) (hP : ∀ r i, r < nr → i < 3 → ¬ ι 52 r = 0 → ∃ q, q < nr ∧ ι 56 (3 * r + i) = nI q ∧ ι 52 q + 1 = ι 52 r) (hrr : gIn r nr) (hk : ι 52 r.toNatClampNeg = 0 ∨ ι 52 r.toNatClampNeg = 1 ∨ ι 52 r.toNatClampNeg = 2) : gCe K ((ι 52 r.toNatClampNeg).toNatClampNeg + 1) 0 0 jX12_strandsOf [vR 40, vI r, vI h] ι ρ Λ (some (vI (sStr (ι 52) (ι 56) (ι 52 r.toNatClampNeg).toNatClampNeg r.toNatClampNeg h))) ι ρ Λ := by
  have e : (ι 52 r.toNatClampNeg).toNatClampNeg ≤ 2 ∧ ι 52 r.toNatClampNeg = nI (ι 52 r.toNatClampNeg).toNatClampNeg := by
    rcases hk with h | h | h <;> rw [h] <;> exact ⟨by decide, by decide⟩
  have g := m_strandsOf K h ι ρ Λ hF nr hr hP _ (by omega) r.toNatClampNeg hrr.2 e.2
  rw [← hrr.nI] at g
  exact g
theorem m_strands (K : gK) (r h : Int32) (ι : gIm) (ρ : gRm) (Λ : gLm) (hF : gFix ρ Λ) (nh : Nat) (hH : ι 40 4 = nI nh) (hn : nh ≤ 24) (nr : Nat) (hR : ι 40 5 = nI nr) (hr : nr ≤ 200) (hP : ∀ r i, r < nr → i < 3 → ¬ ι 52 r = 0 → ∃ q, q < nr ∧ ι 56 (3 * r + i) = nI q ∧ ι 52 q + 1 = ι 52 r) (hKd : ∀ r, r < nr → ι 52 r = 0 ∨ ι 52 r = 1 ∨ ι 52 r = 2) : gCe K 4 0 0 jX12_strands [vR 40, vI r, vI h] ι ρ Λ (some (vI (rs (cTwo r (nI nr) h (nI nh)) (sStr (ι 52) (ι 56) (ι 52 r.toNatClampNeg).toNatClampNeg r.toNatClampNeg h)))) (rsM (cTwo r (nI nr) h (nI nh)) 41 ι ι) ρ Λ := by
  refine gC_of (by decide) (nle rfl) ?_
  refine x_aload_n 0 DX12_strands_0 rfl rfl ?_
  refine x_iload_n 1 DX12_strands_1 rfl rfl ?_
  refine x_Ve (ci := 12) (av := [vI r]) (rest := []) (st' := [vI (b2i (0 ≤ r ∧ r < ι 40 5))]) 0 0 DX12_strands_2 L12_185 rfl rfl rfl rfl rfl ⟨nle rfl, nle rfl, nle rfl⟩ ⟨rfl, nle rfl⟩ ⟨rfl, nle rfl⟩ (m_isRope K r ι ρ Λ hF) rfl ?_
  refine x_if_eq_b 25 DX12_strands_5 (by decide) (fun c_5 => ?_) (fun c_5 => ?_)
  · refine x_aload_n 0 DX12_strands_25 rfl rfl ?_
    refine x_iconst (-1) DX12_strands_26 (by decide) ?_
    refine x_Ve (ci := 12) (av := [vI (-1)]) (rest := []) (st' := [vI (-1)]) 0 0 DX12_strands_27 L12_120 rfl rfl rfl rfl rfl ⟨nle rfl, nle rfl, nle rfl⟩ ⟨rfl, nle rfl⟩ ⟨rfl, nle rfl⟩ (m_refuse K (-1) ι ρ Λ hF ⟨by decide, by decide⟩) rfl ?_
    refine x_nmι (fun ι27 e_ι27 => ?_)
    exact x_ireturn DX12_strands_30 rfl ⟨by grind [cTwo, rs], by grind [cTwo, rsM], rfl, rfl⟩
  · refine x_aload_n 0 DX12_strands_8 rfl rfl ?_
    refine x_iload_n 2 DX12_strands_9 rfl rfl ?_
    refine x_Ve (ci := 12) (av := [vI h]) (rest := []) (st' := [vI (b2i (0 ≤ h ∧ h < ι 40 4))]) 0 0 DX12_strands_10 L12_148 rfl rfl rfl rfl rfl ⟨nle rfl, nle rfl, nle rfl⟩ ⟨rfl, nle rfl⟩ ⟨rfl, nle rfl⟩ (m_isHouse K h ι ρ Λ hF) rfl ?_
    refine x_if_eq_b 25 DX12_strands_13 (by decide) (fun c_13 => ?_) (fun c_13 => ?_)
    · refine x_aload_n 0 DX12_strands_25 rfl rfl ?_
      refine x_iconst (-1) DX12_strands_26 (by decide) ?_
      refine x_Ve (ci := 12) (av := [vI (-1)]) (rest := []) (st' := [vI (-1)]) 0 0 DX12_strands_27 L12_120 rfl rfl rfl rfl rfl ⟨nle rfl, nle rfl, nle rfl⟩ ⟨rfl, nle rfl⟩ ⟨rfl, nle rfl⟩ (m_refuse K (-1) ι ρ Λ hF ⟨by decide, by decide⟩) rfl ?_
      refine x_nmι (fun ι27 e_ι27 => ?_)
      exact x_ireturn DX12_strands_30 rfl ⟨by grind [cTwo, rs], by grind [cTwo, rsM], rfl, rfl⟩
    · refine x_aload_n 0 DX12_strands_16 rfl rfl ?_
      refine x_iload_n 1 DX12_strands_17 rfl rfl ?_
      refine x_iload_n 2 DX12_strands_18 rfl rfl ?_
      refine x_Ve (ci := 12) (av := [vI r, vI h]) (rest := []) (st' := [vI (sStr (ι 52) (ι 56) (ι 52 r.toNatClampNeg).toNatClampNeg r.toNatClampNeg h)]) 0 0 DX12_strands_19 L12_191 rfl rfl rfl rfl rfl ⟨kd_le (hKd _ (gIn_nn (m := nr) (by rw [← hR]; assumption) (Nat.le_refl _) (by omega)).2), nle rfl, nle rfl⟩ ⟨rfl, nle rfl⟩ ⟨rfl, nle rfl⟩ (m_strandsOf2 K r h ι ρ Λ hF nr hr hP (gIn_nn (m := nr) (by rw [← hR]; assumption) (Nat.le_refl _) (by omega)) (hKd _ (gIn_nn (m := nr) (by rw [← hR]; assumption) (Nat.le_refl _) (by omega)).2)) rfl ?_
      refine x_goto 30 DX12_strands_22 (by decide) ?_
      exact x_ireturn DX12_strands_30 rfl ⟨by grind [cTwo, rs], by grind [cTwo, rsM], rfl, rfl⟩
