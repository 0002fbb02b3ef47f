/-! the class, IV: closing -/
theorem x_settle (K : gK)  (ι : gIm) (ρ : gRm) (Λ : gLm) (hF : gFix ρ Λ) (nh : Nat) (hH : ι 4 2 = nI nh) (hn : nh ≤ 24) (hAl : ∀ i, i < nh → ρ 5 i = some (100 + i)) (hNm : ∀ i, i < nh → hr ι 0 i = nI i) (hall : ∀ h, h < nh → hr ι 4 h ≠ 0 → 0 < sHands (hr ι 4) (hr ι 2) nh) : gCe K 3 0 0 jX3_settle [vR 4] ι ρ Λ none (xSettle ι nh) ρ Λ := by
  refine gC_of (by decide) (nle rfl) ?_
  refine x_iconst 0 DX3_settle_0 (by decide) ?_
  refine x_istore_n 1 (lv' := [some (vR 4), some (vI 0)]) DX3_settle_1 rfl ⟨nlt rfl, nlt rfl⟩ rfl ?_
  refine x_lv (lv' := [some (vR 4), some (vI (nI 0))]) (lvS (lvI nI_0.symm rfl)) ?_
  refine lpn (W := fun i => ∀ z1, z1 = xSet1 ι nh i → gX K none 3 0 0 jX3_settle 2 [some (vR 4), some (vI (nI i))] [] 0 0 z1 ρ Λ _) nh (fun i hi ihi z1 hz1 => ?_) 0 (by omega) ?_ _ (by rw [xSet1, fil_0, va_up_id])
  · refine x_iload_n 1 DX3_settle_2 rfl rfl ?_
    refine x_aload_n 0 DX3_settle_3 rfl rfl ?_
    refine x_geti (v := (nI nh)) 2 DX3_settle_4 (Or.inl F3_21) rfl rfl (by rw [hz1, xSet1, va_up_ne _ _ (by decide)]; exact hH) ?_
    refine x_icmp_ge 32 DX3_settle_7 (by decide) (fun c_7 => False.elim (by rw [nI_le1 (by omega) (by omega)] at c_7; omega)) (fun c_7 => ?_)
    refine x_aload_n 0 DX3_settle_10 rfl rfl ?_
    refine x_getr 1 (some 6) DX3_settle_11 (Or.inr F3_17) rfl rfl (hF.1 4 1 6 rfl) ?_
    refine x_iload_n 1 DX3_settle_14 rfl rfl ?_
    refine x_aload_n 0 DX3_settle_15 rfl rfl ?_
    refine x_aload_n 0 DX3_settle_16 rfl rfl ?_
    refine x_getr 0 (some 5) DX3_settle_17 (Or.inr F3_11) rfl rfl (hF.1 4 0 5 rfl) ?_
    refine x_iload_n 1 DX3_settle_20 rfl rfl ?_
    refine x_aald (t := 3) i (some (100 + i)) (nI_cl1 (by omega)) DX3_settle_21 rfl ⟨by decide, by decide⟩ (gIn.fx hF (c := 5) (n := 24) rfl (gIn_nI (by omega) (by omega))) (hAl i hi) ?_
    have e4 : z1 4 = ι 4 := by rw [hz1, xSet1, va_up_ne _ _ (by decide)]
    have e0 : hr z1 0 = hr ι 0 := by rw [hz1, xSet1, hr_up (by decide)]
    have e4h : hr z1 4 = hr ι 4 := by rw [hz1, xSet1, hr_up (by decide)]
    have e2 : hr z1 2 = hr ι 2 := by rw [hz1, xSet1, hr_up (by decide)]
    have e8 : hr z1 8 = hr ι 8 := by rw [hz1, xSet1, hr_up (by decide)]
    have g := x_shareOf K z1 ρ Λ hF nh (by rw [e4]; exact hH) hn hAl (by rw [e0]; exact hNm) i hi (by rw [e4h, e2]; exact hall i hi)
    rw [e4h, e2, e8, e4] at g
    refine x_Ve (ci := 3) (av := [vR (100 + i)]) (rest := [vI (nI i), vR 6]) (st' := [vI (xkShare ι nh i), vI (nI i), vR 6]) 0 0 DX3_settle_22 L3_59 rfl rfl rfl rfl rfl ⟨nle rfl, nle rfl, nle rfl⟩ ⟨rfl, nle rfl⟩ ⟨rfl, nle rfl⟩ (g) rfl ?_
    refine x_iast i (nI_cl1 (by omega)) DX3_settle_25 rfl (gIn.fx hF (c := 6) (n := 24) rfl (gIn_nI (by omega) (by omega))) (fun ι25 e_ι25 => ?_)
    refine x_iinc ((nI i) + 1) (lv' := [some (vR 4), some (vI ((nI i) + 1))]) DX3_settle_26 rfl rfl (nlt rfl) rfl ?_
    refine x_goto 2 DX3_settle_29 (by decide) ?_
    refine x_lv (lv' := [some (vR 4), some (vI (nI (i + 1)))]) (lvS (lvI (nI_1 i) rfl)) ?_
    exact ihi _ (by rw [e_ι25, hz1]; exact up2_fil ι 6 i (xkShare ι nh) (ι 6))
  · intro z1 hz1
    have hH1 : z1 4 2 = nI nh := by rw [hz1, xSet1, va_up_ne _ _ (by decide)]; exact hH
    refine x_iload_n 1 DX3_settle_2 rfl rfl ?_
    refine x_aload_n 0 DX3_settle_3 rfl rfl ?_
    refine x_geti (v := (nI nh)) 2 DX3_settle_4 (Or.inl F3_21) rfl rfl (by rw [hz1, xSet1, va_up_ne _ _ (by decide)]; exact hH) ?_
    refine x_icmp_ge 32 DX3_settle_7 (by decide) (fun c_7 => ?_) (fun c_7 => False.elim (c_7 (nI_le (by omega) (by omega))))
    refine x_iconst 0 DX3_settle_32 (by decide) ?_
    refine x_istore_n 1 (lv' := [some (vR 4), some (vI 0)]) DX3_settle_33 rfl ⟨nlt rfl, nlt rfl⟩ rfl ?_
    refine x_lv (lv' := [some (vR 4), some (vI (nI 0))]) (lvS (lvI nI_0.symm rfl)) ?_
    refine lpn (W := fun i => ∀ z2, z2 = xSet2 z1 i → gX K none 3 0 0 jX3_settle 34 [some (vR 4), some (vI (nI i))] [] 0 0 z2 ρ Λ _) nh (fun i hi ihi z2 hz2 => ?_) 0 (by omega) ?_ _ (by rw [xSet2_0])
    · refine x_iload_n 1 DX3_settle_34 rfl rfl ?_
      refine x_aload_n 0 DX3_settle_35 rfl rfl ?_
      refine x_geti (v := (nI nh)) 2 DX3_settle_36 (Or.inl F3_21) rfl rfl (by rw [hz2, xSet2_out (by omega)]; exact hH1) ?_
      refine x_icmp_ge 87 DX3_settle_39 (by decide) (fun c_39 => False.elim (by rw [nI_le1 (by omega) (by omega)] at c_39; omega)) (fun c_39 => ?_)
      refine x_aload_n 0 DX3_settle_42 rfl rfl ?_
      refine x_getr 0 (some 5) DX3_settle_43 (Or.inr F3_11) rfl rfl (hF.1 4 0 5 rfl) ?_
      refine x_iload_n 1 DX3_settle_46 rfl rfl ?_
      refine x_aald (t := 3) i (some (100 + i)) (nI_cl1 (by omega)) DX3_settle_47 rfl ⟨by decide, by decide⟩ (gIn.fx hF (c := 5) (n := 24) rfl (gIn_nI (by omega) (by omega))) (hAl i hi) ?_
      refine x_dup DX3_settle_48 ?_
      refine x_geti (v := (z1 (100 + i) 8)) 8 DX3_settle_49 (Or.inl F3_53) (shp_house (by omega)) rfl (by rw [hz2, xSet2_out (by omega)]) ?_
      refine x_aload_n 0 DX3_settle_52 rfl rfl ?_
      refine x_getr 1 (some 6) DX3_settle_53 (Or.inr F3_17) rfl rfl (hF.1 4 1 6 rfl) ?_
      refine x_iload_n 1 DX3_settle_56 rfl rfl ?_
      refine x_iald (v := (z1 6 i)) i (nI_cl1 (by omega)) DX3_settle_57 rfl (gIn.fx hF (c := 6) (n := 24) rfl (gIn_nI (by omega) (by omega))) (by rw [hz2, xSet2_out (by omega)]) ?_
      refine x_aload_n 0 DX3_settle_58 rfl rfl ?_
      refine x_getr 0 (some 5) DX3_settle_59 (Or.inr F3_11) rfl rfl (hF.1 4 0 5 rfl) ?_
      refine x_iload_n 1 DX3_settle_62 rfl rfl ?_
      refine x_aald (t := 3) i (some (100 + i)) (nI_cl1 (by omega)) DX3_settle_63 rfl ⟨by decide, by decide⟩ (gIn.fx hF (c := 5) (n := 24) rfl (gIn_nI (by omega) (by omega))) (hAl i hi) ?_
      refine x_geti (v := (z1 (100 + i) 5)) 5 DX3_settle_64 (Or.inl F3_63) (shp_house (by omega)) rfl (by rw [hz2, xSet2_out (by omega)]) ?_
      refine x_isub DX3_settle_67 ?_
      refine x_iadd DX3_settle_68 ?_
      refine x_puti 8 DX3_settle_69 F3_53 (shp_house (by omega)) (Or.inl rfl) rfl (fun ι69 e_ι69 => ?_)
      refine x_aload_n 0 DX3_settle_72 rfl rfl ?_
      refine x_getr 0 (some 5) DX3_settle_73 (Or.inr F3_11) rfl rfl (hF.1 4 0 5 rfl) ?_
      refine x_iload_n 1 DX3_settle_76 rfl rfl ?_
      refine x_aald (t := 3) i (some (100 + i)) (nI_cl1 (by omega)) DX3_settle_77 rfl ⟨by decide, by decide⟩ (gIn.fx hF (c := 5) (n := 24) rfl (gIn_nI (by omega) (by omega))) (hAl i hi) ?_
      refine x_Ve (ci := 2) (av := []) (rest := []) (st' := []) 0 0 DX3_settle_78 L3_66 rfl rfl (shp_house (by omega)) rfl rfl ⟨nle rfl, nle rfl, nle rfl⟩ ⟨rfl, nle rfl⟩ ⟨rfl, nle rfl⟩ (x_beginYear K ι69 ρ Λ i (by omega)) rfl ?_
      refine x_nmι (fun ι78 e_ι78 => ?_)
      refine x_iinc ((nI i) + 1) (lv' := [some (vR 4), some (vI ((nI i) + 1))]) DX3_settle_81 rfl rfl (nlt rfl) rfl ?_
      refine x_goto 34 DX3_settle_84 (by decide) ?_
      refine x_lv (lv' := [some (vR 4), some (vI (nI (i + 1)))]) (lvS (lvI (nI_1 i) rfl)) ?_
      exact ihi _ (by rw [e_ι78, e_ι69, hz2]; exact xSet2_s z1 i)
    · intro z2 hz2
      refine x_iload_n 1 DX3_settle_34 rfl rfl ?_
      refine x_aload_n 0 DX3_settle_35 rfl rfl ?_
      refine x_geti (v := (nI nh)) 2 DX3_settle_36 (Or.inl F3_21) rfl rfl (by rw [hz2, xSet2_out (by omega)]; exact hH1) ?_
      refine x_icmp_ge 87 DX3_settle_39 (by decide) (fun c_39 => ?_) (fun c_39 => False.elim (c_39 (nI_le (by omega) (by omega))))
      exact x_return DX3_settle_87 rfl ⟨rfl, by rw [hz2, hz1]; rfl, rfl, rfl⟩
theorem x_close (K : gK)  (ι : gIm) (ρ : gRm) (Λ : gLm) (hF : gFix ρ Λ) (nh : Nat) (hH : ι 4 2 = nI nh) (hn : nh ≤ 24) (hAl : ∀ i, i < nh → ρ 5 i = some (100 + i)) (hNm : ∀ i, i < nh → hr ι 0 i = nI i) (hall : ∀ h, h < nh → hr ι 4 h ≠ 0 → 0 < sHands (hr ι 4) (hr ι 2) nh) (hy : ι 2 0 ≤ 60) : gCe K 4 0 0 jX11_close [vR 0] ι ρ Λ (some (vI (rs (if ι 2 0 = 60 then -6 else 0) (ι 2 0 + 1)))) (rsM (if ι 2 0 = 60 then -6 else 0) 1 ι (xTurn (xSettle ι nh))) ρ Λ := by
  refine gC_of (by decide) (nle rfl) ?_
  refine x_aload_n 0 DX11_close_0 rfl rfl ?_
  refine x_getr 1 (some 2) DX11_close_1 (Or.inr F11_16) rfl rfl (hF.1 0 1 2 rfl) ?_
  refine x_geti (v := (ι 2 0)) 0 DX11_close_4 (Or.inl F11_94) rfl rfl rfl ?_
  refine x_bipush 60 DX11_close_7 (by decide) ?_
  refine x_icmp_lt 19 DX11_close_9 (by decide) (fun c_9 => ?_) (fun c_9 => ?_)
  · refine x_aload_n 0 DX11_close_19 rfl rfl ?_
    refine x_getr 2 (some 4) DX11_close_20 (Or.inr F11_23) rfl rfl (hF.1 0 2 4 rfl) ?_
    refine x_Ve (ci := 3) (av := []) (rest := []) (st' := []) 0 0 DX11_close_23 L11_98 rfl rfl rfl rfl rfl ⟨nle rfl, nle rfl, nle rfl⟩ ⟨rfl, nle rfl⟩ ⟨rfl, nle rfl⟩ (x_settle K ι ρ Λ hF nh hH hn hAl hNm hall) rfl ?_
    refine x_nmι (fun ι23 e_ι23 => ?_)
    refine x_aload_n 0 DX11_close_26 rfl rfl ?_
    refine x_getr 1 (some 2) DX11_close_27 (Or.inr F11_16) rfl rfl (hF.1 0 1 2 rfl) ?_
    refine x_Ve (ci := 8) (av := []) (rest := []) (st' := []) 0 0 DX11_close_30 L11_101 rfl rfl rfl rfl rfl ⟨nle rfl, nle rfl, nle rfl⟩ ⟨rfl, nle rfl⟩ ⟨rfl, nle rfl⟩ (x_turn K ι23 ρ Λ hF) rfl ?_
    refine x_nmι (fun ι30 e_ι30 => ?_)
    refine x_aload_n 0 DX11_close_33 rfl rfl ?_
    refine x_getr 1 (some 2) DX11_close_34 (Or.inr F11_16) rfl rfl (hF.1 0 1 2 rfl) ?_
    refine x_geti (v := (ι 2 0 + 1)) 0 DX11_close_37 (Or.inl F11_94) rfl rfl (by rw [e_ι30, xTurn, xTurn1, va_up_ne _ _ (by decide), up2_row, va_up_ne _ _ (by decide), up2_row, va_up_self, e_ι23, xSettle, xSet2_out (by omega), xSet1, va_up_ne _ _ (by decide)]) ?_
    exact x_ireturn DX11_close_40 rfl ⟨by rw [rs, if_pos (by grind)], by rw [rsM, if_pos (by grind)]; subst_vars; rfl, rfl, rfl⟩
  · refine x_aload_n 0 DX11_close_12 rfl rfl ?_
    refine x_bipush (-6) DX11_close_13 (by decide) ?_
    refine x_Ve (ci := 11) (av := [vI (-6)]) (rest := []) (st' := [vI (-6)]) 0 0 DX11_close_15 L11_72 rfl rfl rfl rfl rfl ⟨nle rfl, nle rfl, nle rfl⟩ ⟨rfl, nle rfl⟩ ⟨rfl, nle rfl⟩ (x_refuse K (-6) ι ρ Λ hF ⟨by decide, by decide⟩) rfl ?_
    refine x_nmι (fun ι15 e_ι15 => ?_)
    exact x_ireturn DX11_close_18 rfl ⟨by grind [rs], by grind [rsM], rfl, rfl⟩
