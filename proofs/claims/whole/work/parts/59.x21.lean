/-! the class, XXI: plan -/
theorem x_fewest (K : gK)  (ι : gIm) (ρ : gRm) (Λ : gLm) (hF : gFix ρ Λ) : gCe K 1 0 0 jX5_fewestDays [vR 22] ι ρ Λ (some (vI (vDays ι))) ι ρ Λ := by
  refine gC_of (by decide) (nle rfl) ?_
  refine x_aload_n 0 DX5_fewestDays_0 rfl rfl ?_
  refine x_getr 4 (some 26) DX5_fewestDays_1 (Or.inr F5_21) rfl rfl (hF.1 22 4 26 rfl) ?_
  refine x_iconst 0 DX5_fewestDays_4 (by decide) ?_
  refine x_iald (v := (ι 26 0)) 0 rfl DX5_fewestDays_5 rfl (gIn.fx hF (c := 26) (n := 256) rfl (⟨by decide, by decide⟩)) rfl ?_
  refine x_ldc DX5_fewestDays_6 gw3_236 ?_
  refine x_icmp_lt 16 DX5_fewestDays_8 (by decide) (fun c_8 => ?_) (fun c_8 => ?_)
  · refine x_aload_n 0 DX5_fewestDays_16 rfl rfl ?_
    refine x_getr 4 (some 26) DX5_fewestDays_17 (Or.inr F5_21) rfl rfl (hF.1 22 4 26 rfl) ?_
    refine x_iconst 0 DX5_fewestDays_20 (by decide) ?_
    refine x_iald (v := (ι 26 0)) 0 rfl DX5_fewestDays_21 rfl (gIn.fx hF (c := 26) (n := 256) rfl (⟨by decide, by decide⟩)) rfl ?_
    exact x_ireturn DX5_fewestDays_22 rfl ⟨by grind [vDays], rfl, rfl, rfl⟩
  · refine x_bipush (-9) DX5_fewestDays_11 (by decide) ?_
    refine x_goto 22 DX5_fewestDays_13 (by decide) ?_
    exact x_ireturn DX5_fewestDays_22 rfl ⟨by grind [vDays], rfl, rfl, rfl⟩
theorem x_stepAt (K : gK) (k : Int32) (ι : gIm) (ρ : gRm) (Λ : gLm) (hF : gFix ρ Λ) : gCe K 1 0 0 jX5_stepAt [vR 22, vI k] ι ρ Λ (some (vI (vStep ι k))) ι ρ Λ := by
  refine gC_of (by decide) (nle rfl) ?_
  refine x_aload_n 0 DX5_stepAt_0 rfl rfl ?_
  refine x_getr 4 (some 26) DX5_stepAt_1 (Or.inr F5_21) rfl rfl (hF.1 22 4 26 rfl) ?_
  refine x_iconst 0 DX5_stepAt_4 (by decide) ?_
  refine x_iald (v := (ι 26 0)) 0 rfl DX5_stepAt_5 rfl (gIn.fx hF (c := 26) (n := 256) rfl (⟨by decide, by decide⟩)) rfl ?_
  refine x_ldc DX5_stepAt_6 gw3_236 ?_
  refine x_icmp_ge 29 DX5_stepAt_8 (by decide) (fun c_8 => ?_) (fun c_8 => ?_)
  · refine x_bipush (-9) DX5_stepAt_29 (by decide) ?_
    refine x_goto 40 DX5_stepAt_31 (by decide) ?_
    exact x_ireturn DX5_stepAt_40 rfl ⟨by grind [vStep], rfl, rfl, rfl⟩
  · refine x_iload_n 1 DX5_stepAt_11 rfl rfl ?_
    refine x_if_lt 29 DX5_stepAt_12 (by decide) (fun c_12 => ?_) (fun c_12 => ?_)
    · refine x_bipush (-9) DX5_stepAt_29 (by decide) ?_
      refine x_goto 40 DX5_stepAt_31 (by decide) ?_
      exact x_ireturn DX5_stepAt_40 rfl ⟨by grind [vStep], rfl, rfl, rfl⟩
    · refine x_iload_n 1 DX5_stepAt_15 rfl rfl ?_
      refine x_aload_n 0 DX5_stepAt_16 rfl rfl ?_
      refine x_geti (v := (ι 22 9)) 9 DX5_stepAt_17 (Or.inl F5_51) rfl rfl rfl ?_
      refine x_icmp_ge 29 DX5_stepAt_20 (by decide) (fun c_20 => ?_) (fun c_20 => ?_)
      · refine x_bipush (-9) DX5_stepAt_29 (by decide) ?_
        refine x_goto 40 DX5_stepAt_31 (by decide) ?_
        exact x_ireturn DX5_stepAt_40 rfl ⟨by grind [vStep], rfl, rfl, rfl⟩
      · refine x_iload_n 1 DX5_stepAt_23 rfl rfl ?_
        refine x_bipush 8 DX5_stepAt_24 (by decide) ?_
        refine x_icmp_lt 34 DX5_stepAt_26 (by decide) (fun c_26 => ?_) (fun c_26 => ?_)
        · refine x_aload_n 0 DX5_stepAt_34 rfl rfl ?_
          refine x_getr 6 (some 28) DX5_stepAt_35 (Or.inr F5_27) rfl rfl (hF.1 22 6 28 rfl) ?_
          refine x_iload_n 1 DX5_stepAt_38 rfl rfl ?_
          refine x_iald (v := (ι 28 k.toNatClampNeg)) k.toNatClampNeg rfl DX5_stepAt_39 rfl (gIn.fx hF (c := 28) (n := 8) rfl (gIn_of 8 (by grind) rfl)) rfl ?_
          exact x_ireturn DX5_stepAt_40 rfl ⟨by grind [vStep], rfl, rfl, rfl⟩
        · refine x_bipush (-9) DX5_stepAt_29 (by decide) ?_
          refine x_goto 40 DX5_stepAt_31 (by decide) ?_
          exact x_ireturn DX5_stepAt_40 rfl ⟨by grind [vStep], rfl, rfl, rfl⟩
theorem x_see (K : gK) (hg hh : Int32) (ι : gIm) (ρ : gRm) (Λ : gLm) (hF : gFix ρ Λ) (ns : Nat) (hS : ι 16 5 = nI ns) (hs8 : ns ≤ 8) (ld tn : Nat) (P A H : Nat → Nat) (hPl : ∀ s, s < ns → ι 18 s = nI (P s) ∧ P s < 6) (hSu : okP (xSu P ns (xSee0 ι hg hh ns)) ns ld tn P A H) (hRr : okR (xMe ns ld tn P A H (xSu P ns (xSee0 ι hg hh ns))) ns 0) : gCe K 6 0 0 jX5_see [vR 22, vI hg, vI hh] ι ρ Λ none (xSee ns ld tn P A H hg hh ι) ρ Λ := by
  refine gC_of (by decide) (nle rfl) ?_
  have hOk2 : okP (xMe ns ld tn P A H (xSu P ns (xSee0 ι hg hh ns))) ns ld tn P A H := okP_of hSu (xMe_ne (by decide) (by decide)) (xMe_ne (by decide) (by decide)) (xMe_ne (by decide) (by decide)) (xMe_ne (by decide) (by decide))
  refine x_aload_n 0 DX5_see_0 rfl rfl ?_
  refine x_getr 0 (some 16) DX5_see_1 (Or.inr F5_46) rfl rfl (hF.1 22 0 16 rfl) ?_
  refine x_geti (v := (nI ns)) 5 DX5_see_4 (Or.inl F5_54) rfl rfl hS ?_
  refine x_bipush 8 DX5_see_7 (by decide) ?_
  refine x_icmp_gt 42 DX5_see_9 (by decide) (fun c_9 => False.elim (by rw [show (8 : Int32) = nI 8 from rfl, nI_lt1 (by omega) (by omega)] at c_9; omega)) (fun c_9 => ?_)
  refine x_iload_n 1 DX5_see_12 rfl rfl ?_
  refine x_aload_n 0 DX5_see_13 rfl rfl ?_
  refine x_geti (v := (ι 22 12)) 12 DX5_see_14 (Or.inl F5_36) rfl rfl rfl ?_
  refine x_icmp_ne 43 DX5_see_17 (by decide) (fun c_17 => ?_) (fun c_17 => ?_)
  · refine x_aload_n 0 DX5_see_43 rfl rfl ?_
    refine x_iload_n 1 DX5_see_44 rfl rfl ?_
    refine x_puti 12 DX5_see_45 F5_36 rfl (Or.inl rfl) rfl (fun ι45 e_ι45 => ?_)
    refine x_aload_n 0 DX5_see_48 rfl rfl ?_
    refine x_iload_n 2 DX5_see_49 rfl rfl ?_
    refine x_puti 13 DX5_see_50 F5_40 rfl (Or.inl rfl) rfl (fun ι50 e_ι50 => ?_)
    refine x_aload_n 0 DX5_see_53 rfl rfl ?_
    refine x_aload_n 0 DX5_see_54 rfl rfl ?_
    refine x_getr 0 (some 16) DX5_see_55 (Or.inr F5_46) rfl rfl (hF.1 22 0 16 rfl) ?_
    refine x_geti (v := (ι 16 6)) 6 DX5_see_58 (Or.inl F5_59) rfl rfl ((rd1 e_ι50 (by decide)).trans (rd1 e_ι45 (by decide))) ?_
    refine x_puti 14 DX5_see_61 F5_43 rfl (Or.inl rfl) rfl (fun ι61 e_ι61 => ?_)
    refine x_aload_n 0 DX5_see_64 rfl rfl ?_
    refine x_aload_n 0 DX5_see_65 rfl rfl ?_
    refine x_getr 0 (some 16) DX5_see_66 (Or.inr F5_46) rfl rfl (hF.1 22 0 16 rfl) ?_
    refine x_geti (v := (nI ns)) 5 DX5_see_69 (Or.inl F5_54) rfl rfl ((((rd1 e_ι61 (by decide)).trans (rd1 e_ι50 (by decide))).trans (rd1 e_ι45 (by decide))).trans hS) ?_
    refine x_puti 9 DX5_see_72 F5_51 rfl (Or.inl rfl) rfl (fun ι72 e_ι72 => ?_)
    refine x_aload_n 0 DX5_see_75 rfl rfl ?_
    have ez : ι72 = (xSee0 ι hg hh ns) := by subst_vars; rfl
    have g1 := x_sumSets K (xSee0 ι hg hh ns) ρ Λ hF ns P (by rw [xSee0, up2_row, va_up_self]) hs8 (by intro s hs; rw [xSee0, up2_ne _ _ _ (by decide), up2_ne _ _ _ (by decide), up2_ne _ _ _ (by decide), up2_ne _ _ _ (by decide)]; exact hPl s hs)
    rw [ez]
    refine x_Ve (ci := 5) (av := []) (rest := []) (st' := []) 0 0 DX5_see_76 L5_62 rfl rfl rfl rfl rfl ⟨nle rfl, nle rfl, nle rfl⟩ ⟨rfl, nle rfl⟩ ⟨rfl, nle rfl⟩ (g1) rfl ?_
    refine x_nmι (fun ι76 e_ι76 => ?_)
    refine x_aload_n 0 DX5_see_79 rfl rfl ?_
    rw [e_ι76]
    refine x_Ve (ci := 5) (av := []) (rest := []) (st' := []) 0 0 DX5_see_80 L5_65 rfl rfl rfl rfl rfl ⟨nle rfl, nle rfl, nle rfl⟩ ⟨rfl, nle rfl⟩ ⟨rfl, nle rfl⟩ (x_measure K (xSu P ns (xSee0 ι hg hh ns)) ρ Λ hF ns ld tn P A H hSu) rfl ?_
    refine x_nmι (fun ι80 e_ι80 => ?_)
    refine x_aload_n 0 DX5_see_83 rfl rfl ?_
    refine x_getr 4 (some 26) DX5_see_84 (Or.inr F5_21) rfl rfl (hF.1 22 4 26 rfl) ?_
    refine x_iconst 0 DX5_see_87 (by decide) ?_
    refine x_iald (v := (ι80 26 0)) 0 rfl DX5_see_88 rfl (gIn.fx hF (c := 26) (n := 256) rfl (⟨by decide, by decide⟩)) rfl ?_
    refine x_ldc DX5_see_89 gw3_236 ?_
    refine x_icmp_ge 98 DX5_see_91 (by decide) (fun c_91 => ?_) (fun c_91 => ?_)
    · exact x_return DX5_see_98 rfl ⟨rfl, by rw [xSee, if_neg (by grind), xPl2, ← e_ι80, if_pos (by assumption)], rfl, rfl⟩
    · refine x_aload_n 0 DX5_see_94 rfl rfl ?_
      rw [e_ι80] at c_91 ⊢
      refine x_Ve (ci := 5) (av := []) (rest := []) (st' := []) 0 0 DX5_see_95 L5_68 rfl rfl rfl rfl rfl ⟨nle rfl, nle rfl, nle rfl⟩ ⟨rfl, nle rfl⟩ ⟨rfl, nle rfl⟩ (x_chooseRow K (xMe ns ld tn P A H (xSu P ns (xSee0 ι hg hh ns))) ρ Λ hF ns ld tn P A H hOk2 hRr) rfl ?_
      refine x_nmι (fun ι95 e_ι95 => ?_)
      exact x_return DX5_see_98 rfl ⟨rfl, by rw [xSee, if_neg (by grind), xPl2, if_neg (by assumption)]; assumption, rfl, rfl⟩
  · refine x_iload_n 2 DX5_see_20 rfl rfl ?_
    refine x_aload_n 0 DX5_see_21 rfl rfl ?_
    refine x_geti (v := (ι 22 13)) 13 DX5_see_22 (Or.inl F5_40) rfl rfl rfl ?_
    refine x_icmp_ne 43 DX5_see_25 (by decide) (fun c_25 => ?_) (fun c_25 => ?_)
    · refine x_aload_n 0 DX5_see_43 rfl rfl ?_
      refine x_iload_n 1 DX5_see_44 rfl rfl ?_
      refine x_puti 12 DX5_see_45 F5_36 rfl (Or.inl rfl) rfl (fun ι45 e_ι45 => ?_)
      refine x_aload_n 0 DX5_see_48 rfl rfl ?_
      refine x_iload_n 2 DX5_see_49 rfl rfl ?_
      refine x_puti 13 DX5_see_50 F5_40 rfl (Or.inl rfl) rfl (fun ι50 e_ι50 => ?_)
      refine x_aload_n 0 DX5_see_53 rfl rfl ?_
      refine x_aload_n 0 DX5_see_54 rfl rfl ?_
      refine x_getr 0 (some 16) DX5_see_55 (Or.inr F5_46) rfl rfl (hF.1 22 0 16 rfl) ?_
      refine x_geti (v := (ι 16 6)) 6 DX5_see_58 (Or.inl F5_59) rfl rfl ((rd1 e_ι50 (by decide)).trans (rd1 e_ι45 (by decide))) ?_
      refine x_puti 14 DX5_see_61 F5_43 rfl (Or.inl rfl) rfl (fun ι61 e_ι61 => ?_)
      refine x_aload_n 0 DX5_see_64 rfl rfl ?_
      refine x_aload_n 0 DX5_see_65 rfl rfl ?_
      refine x_getr 0 (some 16) DX5_see_66 (Or.inr F5_46) rfl rfl (hF.1 22 0 16 rfl) ?_
      refine x_geti (v := (nI ns)) 5 DX5_see_69 (Or.inl F5_54) rfl rfl ((((rd1 e_ι61 (by decide)).trans (rd1 e_ι50 (by decide))).trans (rd1 e_ι45 (by decide))).trans hS) ?_
      refine x_puti 9 DX5_see_72 F5_51 rfl (Or.inl rfl) rfl (fun ι72 e_ι72 => ?_)
      refine x_aload_n 0 DX5_see_75 rfl rfl ?_
      have ez : ι72 = (xSee0 ι hg hh ns) := by subst_vars; rfl
      have g1 := x_sumSets K (xSee0 ι hg hh ns) ρ Λ hF ns P (by rw [xSee0, up2_row, va_up_self]) hs8 (by intro s hs; rw [xSee0, up2_ne _ _ _ (by decide), up2_ne _ _ _ (by decide), up2_ne _ _ _ (by decide), up2_ne _ _ _ (by decide)]; exact hPl s hs)
      rw [ez]
      refine x_Ve (ci := 5) (av := []) (rest := []) (st' := []) 0 0 DX5_see_76 L5_62 rfl rfl rfl rfl rfl ⟨nle rfl, nle rfl, nle rfl⟩ ⟨rfl, nle rfl⟩ ⟨rfl, nle rfl⟩ (g1) rfl ?_
      refine x_nmι (fun ι76 e_ι76 => ?_)
      refine x_aload_n 0 DX5_see_79 rfl rfl ?_
      rw [e_ι76]
      refine x_Ve (ci := 5) (av := []) (rest := []) (st' := []) 0 0 DX5_see_80 L5_65 rfl rfl rfl rfl rfl ⟨nle rfl, nle rfl, nle rfl⟩ ⟨rfl, nle rfl⟩ ⟨rfl, nle rfl⟩ (x_measure K (xSu P ns (xSee0 ι hg hh ns)) ρ Λ hF ns ld tn P A H hSu) rfl ?_
      refine x_nmι (fun ι80 e_ι80 => ?_)
      refine x_aload_n 0 DX5_see_83 rfl rfl ?_
      refine x_getr 4 (some 26) DX5_see_84 (Or.inr F5_21) rfl rfl (hF.1 22 4 26 rfl) ?_
      refine x_iconst 0 DX5_see_87 (by decide) ?_
      refine x_iald (v := (ι80 26 0)) 0 rfl DX5_see_88 rfl (gIn.fx hF (c := 26) (n := 256) rfl (⟨by decide, by decide⟩)) rfl ?_
      refine x_ldc DX5_see_89 gw3_236 ?_
      refine x_icmp_ge 98 DX5_see_91 (by decide) (fun c_91 => ?_) (fun c_91 => ?_)
      · exact x_return DX5_see_98 rfl ⟨rfl, by rw [xSee, if_neg (by grind), xPl2, ← e_ι80, if_pos (by assumption)], rfl, rfl⟩
      · refine x_aload_n 0 DX5_see_94 rfl rfl ?_
        rw [e_ι80] at c_91 ⊢
        refine x_Ve (ci := 5) (av := []) (rest := []) (st' := []) 0 0 DX5_see_95 L5_68 rfl rfl rfl rfl rfl ⟨nle rfl, nle rfl, nle rfl⟩ ⟨rfl, nle rfl⟩ ⟨rfl, nle rfl⟩ (x_chooseRow K (xMe ns ld tn P A H (xSu P ns (xSee0 ι hg hh ns))) ρ Λ hF ns ld tn P A H hOk2 hRr) rfl ?_
        refine x_nmι (fun ι95 e_ι95 => ?_)
        exact x_return DX5_see_98 rfl ⟨rfl, by rw [xSee, if_neg (by grind), xPl2, if_neg (by assumption)]; assumption, rfl, rfl⟩
    · refine x_aload_n 0 DX5_see_28 rfl rfl ?_
      refine x_getr 0 (some 16) DX5_see_29 (Or.inr F5_46) rfl rfl (hF.1 22 0 16 rfl) ?_
      refine x_geti (v := (ι 16 6)) 6 DX5_see_32 (Or.inl F5_59) rfl rfl rfl ?_
      refine x_aload_n 0 DX5_see_35 rfl rfl ?_
      refine x_geti (v := (ι 22 14)) 14 DX5_see_36 (Or.inl F5_43) rfl rfl rfl ?_
      refine x_icmp_ne 43 DX5_see_39 (by decide) (fun c_39 => ?_) (fun c_39 => ?_)
      · refine x_aload_n 0 DX5_see_43 rfl rfl ?_
        refine x_iload_n 1 DX5_see_44 rfl rfl ?_
        refine x_puti 12 DX5_see_45 F5_36 rfl (Or.inl rfl) rfl (fun ι45 e_ι45 => ?_)
        refine x_aload_n 0 DX5_see_48 rfl rfl ?_
        refine x_iload_n 2 DX5_see_49 rfl rfl ?_
        refine x_puti 13 DX5_see_50 F5_40 rfl (Or.inl rfl) rfl (fun ι50 e_ι50 => ?_)
        refine x_aload_n 0 DX5_see_53 rfl rfl ?_
        refine x_aload_n 0 DX5_see_54 rfl rfl ?_
        refine x_getr 0 (some 16) DX5_see_55 (Or.inr F5_46) rfl rfl (hF.1 22 0 16 rfl) ?_
        refine x_geti (v := (ι 16 6)) 6 DX5_see_58 (Or.inl F5_59) rfl rfl ((rd1 e_ι50 (by decide)).trans (rd1 e_ι45 (by decide))) ?_
        refine x_puti 14 DX5_see_61 F5_43 rfl (Or.inl rfl) rfl (fun ι61 e_ι61 => ?_)
        refine x_aload_n 0 DX5_see_64 rfl rfl ?_
        refine x_aload_n 0 DX5_see_65 rfl rfl ?_
        refine x_getr 0 (some 16) DX5_see_66 (Or.inr F5_46) rfl rfl (hF.1 22 0 16 rfl) ?_
        refine x_geti (v := (nI ns)) 5 DX5_see_69 (Or.inl F5_54) rfl rfl ((((rd1 e_ι61 (by decide)).trans (rd1 e_ι50 (by decide))).trans (rd1 e_ι45 (by decide))).trans hS) ?_
        refine x_puti 9 DX5_see_72 F5_51 rfl (Or.inl rfl) rfl (fun ι72 e_ι72 => ?_)
        refine x_aload_n 0 DX5_see_75 rfl rfl ?_
        have ez : ι72 = (xSee0 ι hg hh ns) := by subst_vars; rfl
        have g1 := x_sumSets K (xSee0 ι hg hh ns) ρ Λ hF ns P (by rw [xSee0, up2_row, va_up_self]) hs8 (by intro s hs; rw [xSee0, up2_ne _ _ _ (by decide), up2_ne _ _ _ (by decide), up2_ne _ _ _ (by decide), up2_ne _ _ _ (by decide)]; exact hPl s hs)
        rw [ez]
        refine x_Ve (ci := 5) (av := []) (rest := []) (st' := []) 0 0 DX5_see_76 L5_62 rfl rfl rfl rfl rfl ⟨nle rfl, nle rfl, nle rfl⟩ ⟨rfl, nle rfl⟩ ⟨rfl, nle rfl⟩ (g1) rfl ?_
        refine x_nmι (fun ι76 e_ι76 => ?_)
        refine x_aload_n 0 DX5_see_79 rfl rfl ?_
        rw [e_ι76]
        refine x_Ve (ci := 5) (av := []) (rest := []) (st' := []) 0 0 DX5_see_80 L5_65 rfl rfl rfl rfl rfl ⟨nle rfl, nle rfl, nle rfl⟩ ⟨rfl, nle rfl⟩ ⟨rfl, nle rfl⟩ (x_measure K (xSu P ns (xSee0 ι hg hh ns)) ρ Λ hF ns ld tn P A H hSu) rfl ?_
        refine x_nmι (fun ι80 e_ι80 => ?_)
        refine x_aload_n 0 DX5_see_83 rfl rfl ?_
        refine x_getr 4 (some 26) DX5_see_84 (Or.inr F5_21) rfl rfl (hF.1 22 4 26 rfl) ?_
        refine x_iconst 0 DX5_see_87 (by decide) ?_
        refine x_iald (v := (ι80 26 0)) 0 rfl DX5_see_88 rfl (gIn.fx hF (c := 26) (n := 256) rfl (⟨by decide, by decide⟩)) rfl ?_
        refine x_ldc DX5_see_89 gw3_236 ?_
        refine x_icmp_ge 98 DX5_see_91 (by decide) (fun c_91 => ?_) (fun c_91 => ?_)
        · exact x_return DX5_see_98 rfl ⟨rfl, by rw [xSee, if_neg (by grind), xPl2, ← e_ι80, if_pos (by assumption)], rfl, rfl⟩
        · refine x_aload_n 0 DX5_see_94 rfl rfl ?_
          rw [e_ι80] at c_91 ⊢
          refine x_Ve (ci := 5) (av := []) (rest := []) (st' := []) 0 0 DX5_see_95 L5_68 rfl rfl rfl rfl rfl ⟨nle rfl, nle rfl, nle rfl⟩ ⟨rfl, nle rfl⟩ ⟨rfl, nle rfl⟩ (x_chooseRow K (xMe ns ld tn P A H (xSu P ns (xSee0 ι hg hh ns))) ρ Λ hF ns ld tn P A H hOk2 hRr) rfl ?_
          refine x_nmι (fun ι95 e_ι95 => ?_)
          exact x_return DX5_see_98 rfl ⟨rfl, by rw [xSee, if_neg (by grind), xPl2, if_neg (by assumption)]; assumption, rfl, rfl⟩
      · exact x_return DX5_see_42 rfl ⟨rfl, by rw [xSee, if_pos ⟨by assumption, by assumption, by assumption⟩], rfl, rfl⟩
theorem x_plan (K : gK)  (ι : gIm) (ρ : gRm) (Λ : gLm) (hF : gFix ρ Λ) (nh : Nat) (hH : ι 4 2 = nI nh) (hn : nh ≤ 24) (hAl : ∀ i, i < nh → ρ 5 i = some (100 + i)) (sp : Nat → Option Nat) (hSp : ∀ p, p < 6 → ρ 10 p = (sp p).map (200 + ·)) (hSr : ∀ p r, p < 6 → sp p = some r → r < 200) (ns : Nat) (hS : ι 16 5 = nI ns) (hs12 : ns ≤ 12) (ld tn : Nat) (P A H : Nat → Nat) (hPl : ∀ s, s < ns → ι 18 s = nI (P s) ∧ P s < 6) (hSu : ns ≤ 8 → okP (xSu P ns (xSee0 ι (sHung sp) (sHands (hr ι 4) (hr ι 2) nh) ns)) ns ld tn P A H) (hRr : ns ≤ 8 → okR (xMe ns ld tn P A H (xSu P ns (xSee0 ι (sHung sp) (sHands (hr ι 4) (hr ι 2) nh) ns))) ns 0) : gCe K 7 0 0 jX11_plan [vR 0] ι ρ Λ (some (vI (rs (cPlan (nI ns)) (vDays (xSee ns ld tn P A H (sHung sp) (sHands (hr ι 4) (hr ι 2) nh) ι))))) (rsM (cPlan (nI ns)) 1 ι (xSee ns ld tn P A H (sHung sp) (sHands (hr ι 4) (hr ι 2) nh) ι)) ρ Λ := by
  refine gC_of (by decide) (nle rfl) ?_
  refine x_aload_n 0 DX11_plan_0 rfl rfl ?_
  refine x_getr 6 (some 16) DX11_plan_1 (Or.inr F11_51) rfl rfl (hF.1 0 6 16 rfl) ?_
  refine x_geti (v := (nI ns)) 5 DX11_plan_4 (Or.inl F11_258) rfl rfl hS ?_
  refine x_bipush 8 DX11_plan_7 (by decide) ?_
  refine x_icmp_le 19 DX11_plan_9 (by decide) (fun c_9 => ?_) (fun c_9 => ?_)
  · refine x_aload_n 0 DX11_plan_19 rfl rfl ?_
    refine x_getr 7 (some 22) DX11_plan_20 (Or.inr F11_60) rfl rfl (hF.1 0 7 22 rfl) ?_
    refine x_aload_n 0 DX11_plan_23 rfl rfl ?_
    refine x_getr 4 (some 9) DX11_plan_24 (Or.inr F11_37) rfl rfl (hF.1 0 4 9 rfl) ?_
    refine x_Ve (ci := 9) (av := []) (rest := [vR 22]) (st' := [vI (sHung sp), vR 22]) 0 0 DX11_plan_27 L11_265 rfl rfl rfl rfl rfl ⟨nle rfl, nle rfl, nle rfl⟩ ⟨rfl, nle rfl⟩ ⟨rfl, nle rfl⟩ (x_hungSet K ι ρ Λ hF sp hSp hSr) rfl ?_
    refine x_aload_n 0 DX11_plan_30 rfl rfl ?_
    refine x_getr 2 (some 4) DX11_plan_31 (Or.inr F11_23) rfl rfl (hF.1 0 2 4 rfl) ?_
    refine x_Ve (ci := 3) (av := []) (rest := [vI (sHung sp), vR 22]) (st' := [vI (sHands (hr ι 4) (hr ι 2) nh), vI (sHung sp), vR 22]) 0 0 DX11_plan_34 L11_268 rfl rfl rfl rfl rfl ⟨nle rfl, nle rfl, nle rfl⟩ ⟨rfl, nle rfl⟩ ⟨rfl, nle rfl⟩ (x_handsHere K ι ρ Λ hF nh hH hn hAl) rfl ?_
    have hn8 : ns ≤ 8 := by rw [show (8 : Int32) = nI 8 from rfl, nI_le1 (by omega) (by omega)] at c_9; exact c_9
    refine x_Ve (ci := 5) (av := [vI (sHung sp), vI (sHands (hr ι 4) (hr ι 2) nh)]) (rest := []) (st' := []) 0 0 DX11_plan_37 L11_271 rfl rfl rfl rfl rfl ⟨nle rfl, nle rfl, nle rfl⟩ ⟨rfl, nle rfl⟩ ⟨rfl, nle rfl⟩ (x_see K (sHung sp) (sHands (hr ι 4) (hr ι 2) nh) ι ρ Λ hF ns hS hn8 ld tn P A H hPl (hSu hn8) (hRr hn8)) rfl ?_
    refine x_nmι (fun ι37 e_ι37 => ?_)
    refine x_aload_n 0 DX11_plan_40 rfl rfl ?_
    refine x_getr 7 (some 22) DX11_plan_41 (Or.inr F11_60) rfl rfl (hF.1 0 7 22 rfl) ?_
    refine x_Ve (ci := 5) (av := []) (rest := []) (st' := [vI (vDays ι37)]) 0 0 DX11_plan_44 L11_275 rfl rfl rfl rfl rfl ⟨nle rfl, nle rfl, nle rfl⟩ ⟨rfl, nle rfl⟩ ⟨rfl, nle rfl⟩ (x_fewest K ι37 ρ Λ hF) rfl ?_
    exact x_ireturn DX11_plan_47 rfl ⟨by rw [rs, if_pos (by grind [cPlan])]; subst_vars; rfl, by rw [rsM, if_pos (by grind [cPlan])]; assumption, rfl, rfl⟩
  · refine x_aload_n 0 DX11_plan_12 rfl rfl ?_
    refine x_bipush (-6) DX11_plan_13 (by decide) ?_
    refine x_Ve (ci := 11) (av := [vI (-6)]) (rest := []) (st' := [vI (-6)]) 0 0 DX11_plan_15 L11_72 rfl rfl rfl rfl rfl ⟨nle rfl, nle rfl, nle rfl⟩ ⟨rfl, nle rfl⟩ ⟨rfl, nle rfl⟩ (x_refuse K (-6) ι ρ Λ hF ⟨by decide, by decide⟩) rfl ?_
    refine x_nmι (fun ι15 e_ι15 => ?_)
    exact x_ireturn DX11_plan_18 rfl ⟨by grind [cPlan, rs], by grind [cPlan, rsM], rfl, rfl⟩
theorem x_planAt (K : gK) (k : Int32) (ι : gIm) (ρ : gRm) (Λ : gLm) (hF : gFix ρ Λ) (nh : Nat) (hH : ι 4 2 = nI nh) (hn : nh ≤ 24) (hAl : ∀ i, i < nh → ρ 5 i = some (100 + i)) (sp : Nat → Option Nat) (hSp : ∀ p, p < 6 → ρ 10 p = (sp p).map (200 + ·)) (hSr : ∀ p r, p < 6 → sp p = some r → r < 200) (ns : Nat) (hS : ι 16 5 = nI ns) (hs12 : ns ≤ 12) (ld tn : Nat) (P A H : Nat → Nat) (hPl : ∀ s, s < ns → ι 18 s = nI (P s) ∧ P s < 6) (hSu : ns ≤ 8 → okP (xSu P ns (xSee0 ι (sHung sp) (sHands (hr ι 4) (hr ι 2) nh) ns)) ns ld tn P A H) (hRr : ns ≤ 8 → okR (xMe ns ld tn P A H (xSu P ns (xSee0 ι (sHung sp) (sHands (hr ι 4) (hr ι 2) nh) ns))) ns 0) : gCe K 7 0 0 jX11_planAt [vR 0, vI k] ι ρ Λ (some (vI (rs (cPlan (nI ns)) (vStep (xSee ns ld tn P A H (sHung sp) (sHands (hr ι 4) (hr ι 2) nh) ι) k)))) (rsM (cPlan (nI ns)) 1 ι (xSee ns ld tn P A H (sHung sp) (sHands (hr ι 4) (hr ι 2) nh) ι)) ρ Λ := by
  refine gC_of (by decide) (nle rfl) ?_
  refine x_aload_n 0 DX11_planAt_0 rfl rfl ?_
  refine x_getr 6 (some 16) DX11_planAt_1 (Or.inr F11_51) rfl rfl (hF.1 0 6 16 rfl) ?_
  refine x_geti (v := (nI ns)) 5 DX11_planAt_4 (Or.inl F11_258) rfl rfl hS ?_
  refine x_bipush 8 DX11_planAt_7 (by decide) ?_
  refine x_icmp_le 19 DX11_planAt_9 (by decide) (fun c_9 => ?_) (fun c_9 => ?_)
  · refine x_aload_n 0 DX11_planAt_19 rfl rfl ?_
    refine x_getr 7 (some 22) DX11_planAt_20 (Or.inr F11_60) rfl rfl (hF.1 0 7 22 rfl) ?_
    refine x_aload_n 0 DX11_planAt_23 rfl rfl ?_
    refine x_getr 4 (some 9) DX11_planAt_24 (Or.inr F11_37) rfl rfl (hF.1 0 4 9 rfl) ?_
    refine x_Ve (ci := 9) (av := []) (rest := [vR 22]) (st' := [vI (sHung sp), vR 22]) 0 0 DX11_planAt_27 L11_265 rfl rfl rfl rfl rfl ⟨nle rfl, nle rfl, nle rfl⟩ ⟨rfl, nle rfl⟩ ⟨rfl, nle rfl⟩ (x_hungSet K ι ρ Λ hF sp hSp hSr) rfl ?_
    refine x_aload_n 0 DX11_planAt_30 rfl rfl ?_
    refine x_getr 2 (some 4) DX11_planAt_31 (Or.inr F11_23) rfl rfl (hF.1 0 2 4 rfl) ?_
    refine x_Ve (ci := 3) (av := []) (rest := [vI (sHung sp), vR 22]) (st' := [vI (sHands (hr ι 4) (hr ι 2) nh), vI (sHung sp), vR 22]) 0 0 DX11_planAt_34 L11_268 rfl rfl rfl rfl rfl ⟨nle rfl, nle rfl, nle rfl⟩ ⟨rfl, nle rfl⟩ ⟨rfl, nle rfl⟩ (x_handsHere K ι ρ Λ hF nh hH hn hAl) rfl ?_
    have hn8 : ns ≤ 8 := by rw [show (8 : Int32) = nI 8 from rfl, nI_le1 (by omega) (by omega)] at c_9; exact c_9
    refine x_Ve (ci := 5) (av := [vI (sHung sp), vI (sHands (hr ι 4) (hr ι 2) nh)]) (rest := []) (st' := []) 0 0 DX11_planAt_37 L11_271 rfl rfl rfl rfl rfl ⟨nle rfl, nle rfl, nle rfl⟩ ⟨rfl, nle rfl⟩ ⟨rfl, nle rfl⟩ (x_see K (sHung sp) (sHands (hr ι 4) (hr ι 2) nh) ι ρ Λ hF ns hS hn8 ld tn P A H hPl (hSu hn8) (hRr hn8)) rfl ?_
    refine x_nmι (fun ι37 e_ι37 => ?_)
    refine x_aload_n 0 DX11_planAt_40 rfl rfl ?_
    refine x_getr 7 (some 22) DX11_planAt_41 (Or.inr F11_60) rfl rfl (hF.1 0 7 22 rfl) ?_
    refine x_iload_n 1 DX11_planAt_44 rfl rfl ?_
    refine x_Ve (ci := 5) (av := [vI k]) (rest := []) (st' := [vI (vStep ι37 k)]) 0 0 DX11_planAt_45 L11_278 rfl rfl rfl rfl rfl ⟨nle rfl, nle rfl, nle rfl⟩ ⟨rfl, nle rfl⟩ ⟨rfl, nle rfl⟩ (x_stepAt K k ι37 ρ Λ hF) rfl ?_
    exact x_ireturn DX11_planAt_48 rfl ⟨by rw [rs, if_pos (by grind [cPlan])]; subst_vars; rfl, by rw [rsM, if_pos (by grind [cPlan])]; assumption, rfl, rfl⟩
  · refine x_aload_n 0 DX11_planAt_12 rfl rfl ?_
    refine x_bipush (-6) DX11_planAt_13 (by decide) ?_
    refine x_Ve (ci := 11) (av := [vI (-6)]) (rest := []) (st' := [vI (-6)]) 0 0 DX11_planAt_15 L11_72 rfl rfl rfl rfl rfl ⟨nle rfl, nle rfl, nle rfl⟩ ⟨rfl, nle rfl⟩ ⟨rfl, nle rfl⟩ (x_refuse K (-6) ι ρ Λ hF ⟨by decide, by decide⟩) rfl ?_
    refine x_nmι (fun ι15 e_ι15 => ?_)
    exact x_ireturn DX11_planAt_18 rfl ⟨by grind [cPlan, rs], by grind [cPlan, rsM], rfl, rfl⟩
