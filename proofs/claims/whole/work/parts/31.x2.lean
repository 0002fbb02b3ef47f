/-! the class, II: houses -/
theorem x_findH (K : gK) (h : Int32) (ι : gIm) (ρ : gRm) (Λ : gLm) (hF : gFix ρ Λ) (nh : Nat) (hH : ι 4 2 = nI nh) (hn : nh ≤ 24) (hAl : ∀ i, i < nh → ρ 5 i = some (100 + i)) (f : 0 ≤ h ∧ h < nI nh) : gCe K 1 0 0 jX3_find [vR 4, vI h] ι ρ Λ (some (vR (100 + h.toNatClampNeg))) ι ρ Λ := by
  refine gC_of (by decide) (nle rfl) ?_
  refine x_iload_n 1 DX3_find_0 rfl rfl ?_
  refine x_if_lt 27 DX3_find_1 (by decide) (fun c_1 => False.elim (by grind)) (fun c_1 => ?_)
  refine x_iload_n 1 DX3_find_4 rfl rfl ?_
  refine x_aload_n 0 DX3_find_5 rfl rfl ?_
  refine x_geti (v := (nI nh)) 2 DX3_find_6 (Or.inl F3_21) rfl rfl hH ?_
  refine x_icmp_ge 27 DX3_find_9 (by decide) (fun c_9 => False.elim (by grind)) (fun c_9 => ?_)
  refine x_iload_n 1 DX3_find_12 rfl rfl ?_
  refine x_bipush 24 DX3_find_13 (by decide) ?_
  refine x_icmp_ge 27 DX3_find_15 (by decide) (fun c_15 => False.elim (by have h2 := (gIn_nn f hn (by omega)); have h3 : h < 24 := (show h < nI 24 from (by rw [h2.nI]; exact nI_lt h2.2 (by omega))); grind)) (fun c_15 => ?_)
  refine x_aload_n 0 DX3_find_18 rfl rfl ?_
  refine x_getr 0 (some 5) DX3_find_19 (Or.inr F3_11) rfl rfl (hF.1 4 0 5 rfl) ?_
  refine x_iload_n 1 DX3_find_22 rfl rfl ?_
  refine x_aald (t := 3) h.toNatClampNeg (some (100 + h.toNatClampNeg)) rfl DX3_find_23 rfl ⟨by decide, by decide⟩ (gIn.fx hF (c := 5) (n := 24) rfl (gIn_nn f hn (by omega))) (hAl _ (nn_i f (by omega))) ?_
  refine x_goto 28 DX3_find_24 (by decide) ?_
  exact x_areturn DX3_find_28 ⟨_, rfl, by first | exact Or.inl ⟨_, rfl⟩ | exact Or.inr ⟨_, rfl⟩⟩ ⟨rfl, rfl, rfl, rfl⟩
theorem x_findN (K : gK) (h : Int32) (ι : gIm) (ρ : gRm) (Λ : gLm) (hF : gFix ρ Λ) (nh : Nat) (hH : ι 4 2 = nI nh) (hn : nh ≤ 24) (f : ¬ (0 ≤ h ∧ h < nI nh)) : gCe K 1 0 0 jX3_find [vR 4, vI h] ι ρ Λ (some vN) ι ρ Λ := by
  refine gC_of (by decide) (nle rfl) ?_
  refine x_iload_n 1 DX3_find_0 rfl rfl ?_
  refine x_if_lt 27 DX3_find_1 (by decide) (fun c_1 => ?_) (fun c_1 => ?_)
  · refine x_null DX3_find_27 ?_
    exact x_areturn DX3_find_28 ⟨_, rfl, by first | exact Or.inl ⟨_, rfl⟩ | exact Or.inr ⟨_, rfl⟩⟩ ⟨rfl, rfl, rfl, rfl⟩
  · refine x_iload_n 1 DX3_find_4 rfl rfl ?_
    refine x_aload_n 0 DX3_find_5 rfl rfl ?_
    refine x_geti (v := (nI nh)) 2 DX3_find_6 (Or.inl F3_21) rfl rfl hH ?_
    refine x_icmp_ge 27 DX3_find_9 (by decide) (fun c_9 => ?_) (fun c_9 => ?_)
    · refine x_null DX3_find_27 ?_
      exact x_areturn DX3_find_28 ⟨_, rfl, by first | exact Or.inl ⟨_, rfl⟩ | exact Or.inr ⟨_, rfl⟩⟩ ⟨rfl, rfl, rfl, rfl⟩
    · refine x_iload_n 1 DX3_find_12 rfl rfl ?_
      refine x_bipush 24 DX3_find_13 (by decide) ?_
      refine x_icmp_ge 27 DX3_find_15 (by decide) (fun c_15 => ?_) (fun c_15 => False.elim (f ⟨by grind, by grind⟩))
      refine x_null DX3_find_27 ?_
      exact x_areturn DX3_find_28 ⟨_, rfl, by first | exact Or.inl ⟨_, rfl⟩ | exact Or.inr ⟨_, rfl⟩⟩ ⟨rfl, rfl, rfl, rfl⟩
theorem x_cordsLeft (K : gK)  (ι : gIm) (ρ : gRm) (Λ : gLm) (i : Nat) (hi : i < 100) : gCe K 1 0 0 jX2_cordsLeft [vR (100 + i)] ι ρ Λ (some (vI (ι (100 + i) 5 / 10 - ι (100 + i) 7))) ι ρ Λ := by
  refine gC_of (by decide) (nle rfl) ?_
  refine x_aload_n 0 DX2_cordsLeft_0 rfl rfl ?_
  refine x_geti (v := (ι (100 + i) 5)) 5 DX2_cordsLeft_1 (Or.inl F2_26) (shp_house (by omega)) rfl rfl ?_
  refine x_bipush 10 DX2_cordsLeft_4 (by decide) ?_
  refine x_idiv DX2_cordsLeft_6 (by decide) ?_
  refine x_aload_n 0 DX2_cordsLeft_7 rfl rfl ?_
  refine x_geti (v := (ι (100 + i) 7)) 7 DX2_cordsLeft_8 (Or.inl F2_29) (shp_house (by omega)) rfl rfl ?_
  refine x_isub DX2_cordsLeft_11 ?_
  exact x_ireturn DX2_cordsLeft_12 rfl ⟨rfl, rfl, rfl, rfl⟩
theorem x_become (K : gK) (what v : Int32) (ι : gIm) (ρ : gRm) (Λ : gLm) (i : Nat) (hi : i < 100) : gCe K 1 0 0 jX2_become [vR (100 + i), vI what, vI v] ι ρ Λ (some (vI (if what = 0 then ι (100 + i) 2 else if what = 1 then ι (100 + i) 3 else if ι (100 + i) 4 = 0 then 0 else 1))) (xBecome ι (100 + i) what v) ρ Λ := by
  refine gC_of (by decide) (nle rfl) ?_
  refine x_iload_n 1 DX2_become_0 rfl rfl ?_
  refine x_if_ne 17 DX2_become_1 (by decide) (fun c_1 => ?_) (fun c_1 => ?_)
  · refine x_iload_n 1 DX2_become_17 rfl rfl ?_
    refine x_iconst 1 DX2_become_18 (by decide) ?_
    refine x_icmp_ne 35 DX2_become_19 (by decide) (fun c_19 => ?_) (fun c_19 => ?_)
    · refine x_aload_n 0 DX2_become_35 rfl rfl ?_
      refine x_geti (v := (ι (100 + i) 4)) 4 DX2_become_36 (Or.inl F2_13) (shp_house (by omega)) rfl rfl ?_
      refine x_if_eq 46 DX2_become_39 (by decide) (fun c_39 => ?_) (fun c_39 => ?_)
      · refine x_iconst 0 DX2_become_46 (by decide) ?_
        refine x_istore_n 3 (lv' := [some (vR (100 + i)), some (vI what), some (vI v), some (vI 0)]) DX2_become_47 rfl ⟨nlt rfl, nlt rfl⟩ rfl ?_
        refine x_aload_n 0 DX2_become_48 rfl rfl ?_
        refine x_iload_n 2 DX2_become_49 rfl rfl ?_
        refine x_iconst 1 DX2_become_50 (by decide) ?_
        refine x_icmp_ne 58 DX2_become_51 (by decide) (fun c_51 => ?_) (fun c_51 => ?_)
        · refine x_iconst 0 DX2_become_58 (by decide) ?_
          refine x_puti 4 DX2_become_59 F2_13 (shp_house (by omega)) (Or.inr ⟨rfl, (Or.inl rfl)⟩) rfl (fun ι59 e_ι59 => ?_)
          refine x_iload_n 3 DX2_become_62 rfl rfl ?_
          exact x_ireturn DX2_become_63 rfl ⟨by grind, by grind [xBecome], rfl, rfl⟩
        · refine x_iconst 1 DX2_become_54 (by decide) ?_
          refine x_goto 59 DX2_become_55 (by decide) ?_
          refine x_puti 4 DX2_become_59 F2_13 (shp_house (by omega)) (Or.inr ⟨rfl, (Or.inr rfl)⟩) rfl (fun ι59 e_ι59 => ?_)
          refine x_iload_n 3 DX2_become_62 rfl rfl ?_
          exact x_ireturn DX2_become_63 rfl ⟨by grind, by grind [xBecome], rfl, rfl⟩
      · refine x_iconst 1 DX2_become_42 (by decide) ?_
        refine x_goto 47 DX2_become_43 (by decide) ?_
        refine x_istore_n 3 (lv' := [some (vR (100 + i)), some (vI what), some (vI v), some (vI 1)]) DX2_become_47 rfl ⟨nlt rfl, nlt rfl⟩ rfl ?_
        refine x_aload_n 0 DX2_become_48 rfl rfl ?_
        refine x_iload_n 2 DX2_become_49 rfl rfl ?_
        refine x_iconst 1 DX2_become_50 (by decide) ?_
        refine x_icmp_ne 58 DX2_become_51 (by decide) (fun c_51 => ?_) (fun c_51 => ?_)
        · refine x_iconst 0 DX2_become_58 (by decide) ?_
          refine x_puti 4 DX2_become_59 F2_13 (shp_house (by omega)) (Or.inr ⟨rfl, (Or.inl rfl)⟩) rfl (fun ι59 e_ι59 => ?_)
          refine x_iload_n 3 DX2_become_62 rfl rfl ?_
          exact x_ireturn DX2_become_63 rfl ⟨by grind, by grind [xBecome], rfl, rfl⟩
        · refine x_iconst 1 DX2_become_54 (by decide) ?_
          refine x_goto 59 DX2_become_55 (by decide) ?_
          refine x_puti 4 DX2_become_59 F2_13 (shp_house (by omega)) (Or.inr ⟨rfl, (Or.inr rfl)⟩) rfl (fun ι59 e_ι59 => ?_)
          refine x_iload_n 3 DX2_become_62 rfl rfl ?_
          exact x_ireturn DX2_become_63 rfl ⟨by grind, by grind [xBecome], rfl, rfl⟩
    · refine x_aload_n 0 DX2_become_22 rfl rfl ?_
      refine x_geti (v := (ι (100 + i) 3)) 3 DX2_become_23 (Or.inl F2_9) (shp_house (by omega)) rfl rfl ?_
      refine x_istore_n 3 (lv' := [some (vR (100 + i)), some (vI what), some (vI v), some (vI (ι (100 + i) 3))]) DX2_become_26 rfl ⟨nlt rfl, nlt rfl⟩ rfl ?_
      refine x_aload_n 0 DX2_become_27 rfl rfl ?_
      refine x_iload_n 2 DX2_become_28 rfl rfl ?_
      refine x_puti 3 DX2_become_29 F2_9 (shp_house (by omega)) (Or.inl rfl) rfl (fun ι29 e_ι29 => ?_)
      refine x_goto 62 DX2_become_32 (by decide) ?_
      refine x_iload_n 3 DX2_become_62 rfl rfl ?_
      exact x_ireturn DX2_become_63 rfl ⟨by grind, by grind [xBecome], rfl, rfl⟩
  · refine x_aload_n 0 DX2_become_4 rfl rfl ?_
    refine x_geti (v := (ι (100 + i) 2)) 2 DX2_become_5 (Or.inl F2_23) (shp_house (by omega)) rfl rfl ?_
    refine x_istore_n 3 (lv' := [some (vR (100 + i)), some (vI what), some (vI v), some (vI (ι (100 + i) 2))]) DX2_become_8 rfl ⟨nlt rfl, nlt rfl⟩ rfl ?_
    refine x_aload_n 0 DX2_become_9 rfl rfl ?_
    refine x_iload_n 2 DX2_become_10 rfl rfl ?_
    refine x_puti 2 DX2_become_11 F2_23 (shp_house (by omega)) (Or.inl rfl) rfl (fun ι11 e_ι11 => ?_)
    refine x_goto 62 DX2_become_14 (by decide) ?_
    refine x_iload_n 3 DX2_become_62 rfl rfl ?_
    exact x_ireturn DX2_become_63 rfl ⟨by grind, by grind [xBecome], rfl, rfl⟩
theorem x_fathomsAs (K : gK) (what : Int32) (ι : gIm) (ρ : gRm) (Λ : gLm) (i : Nat) (hi : i < 100) : gCe K 2 0 0 jX2_fathomsAs [vR (100 + i), vI what] ι ρ Λ (some (vI (sFath what (ι (100 + i) 5) (ι (100 + i) 6)))) ι ρ Λ := by
  refine gC_of (by decide) (nle rfl) ?_
  refine x_iload_n 1 DX2_fathomsAs_0 rfl rfl ?_
  refine x_if_ne 20 DX2_fathomsAs_1 (by decide) (fun c_1 => ?_) (fun c_1 => ?_)
  · refine x_iload_n 1 DX2_fathomsAs_20 rfl rfl ?_
    refine x_iconst 1 DX2_fathomsAs_21 (by decide) ?_
    refine x_icmp_ne 32 DX2_fathomsAs_22 (by decide) (fun c_22 => ?_) (fun c_22 => ?_)
    · refine x_aload_n 0 DX2_fathomsAs_32 rfl rfl ?_
      refine x_geti (v := (ι (100 + i) 5)) 5 DX2_fathomsAs_33 (Or.inl F2_26) (shp_house (by omega)) rfl rfl ?_
      refine x_aload_n 0 DX2_fathomsAs_36 rfl rfl ?_
      refine x_geti (v := (ι (100 + i) 6)) 6 DX2_fathomsAs_37 (Or.inl F2_32) (shp_house (by omega)) rfl rfl ?_
      refine x_iadd DX2_fathomsAs_40 ?_
      exact x_ireturn DX2_fathomsAs_41 rfl ⟨by grind [sFath], rfl, rfl, rfl⟩
    · refine x_aload_n 0 DX2_fathomsAs_25 rfl rfl ?_
      refine x_geti (v := (ι (100 + i) 5)) 5 DX2_fathomsAs_26 (Or.inl F2_26) (shp_house (by omega)) rfl rfl ?_
      refine x_goto 41 DX2_fathomsAs_29 (by decide) ?_
      exact x_ireturn DX2_fathomsAs_41 rfl ⟨by grind [sFath], rfl, rfl, rfl⟩
  · refine x_iconst 0 DX2_fathomsAs_4 (by decide) ?_
    refine x_aload_n 0 DX2_fathomsAs_5 rfl rfl ?_
    refine x_geti (v := (ι (100 + i) 5)) 5 DX2_fathomsAs_6 (Or.inl F2_26) (shp_house (by omega)) rfl rfl ?_
    refine x_aload_n 0 DX2_fathomsAs_9 rfl rfl ?_
    refine x_geti (v := (ι (100 + i) 6)) 6 DX2_fathomsAs_10 (Or.inl F2_32) (shp_house (by omega)) rfl rfl ?_
    refine x_isub DX2_fathomsAs_13 ?_
    refine x_Se (av := [vI 0, vI ((ι (100 + i) 5) - (ι (100 + i) 6))]) (rest := []) (st' := [vI (imax 0 ((ι (100 + i) 5) - (ι (100 + i) 6)))]) 0 0 DX2_fathomsAs_14 L2_35 rfl rfl ⟨nle rfl, nle rfl, nle rfl⟩ ⟨rfl, nle rfl⟩ ⟨rfl, nle rfl⟩ (j_max K 0 ((ι (100 + i) 5) - (ι (100 + i) 6)) ι ρ Λ) rfl ?_
    refine x_goto 41 DX2_fathomsAs_17 (by decide) ?_
    exact x_ireturn DX2_fathomsAs_41 rfl ⟨by grind [sFath], rfl, rfl, rfl⟩
theorem x_beginYear (K : gK)  (ι : gIm) (ρ : gRm) (Λ : gLm) (i : Nat) (hi : i < 100) : gCe K 1 0 0 jX2_beginYear [vR (100 + i)] ι ρ Λ none (up2 (up2 (up2 ι (100 + i) 5 0) (100 + i) 6 0) (100 + i) 7 0) ρ Λ := by
  refine gC_of (by decide) (nle rfl) ?_
  refine x_aload_n 0 DX2_beginYear_0 rfl rfl ?_
  refine x_iconst 0 DX2_beginYear_1 (by decide) ?_
  refine x_puti 5 DX2_beginYear_2 F2_26 (shp_house (by omega)) (Or.inl rfl) rfl (fun ι2 e_ι2 => ?_)
  refine x_aload_n 0 DX2_beginYear_5 rfl rfl ?_
  refine x_iconst 0 DX2_beginYear_6 (by decide) ?_
  refine x_puti 6 DX2_beginYear_7 F2_32 (shp_house (by omega)) (Or.inl rfl) rfl (fun ι7 e_ι7 => ?_)
  refine x_aload_n 0 DX2_beginYear_10 rfl rfl ?_
  refine x_iconst 0 DX2_beginYear_11 (by decide) ?_
  refine x_puti 7 DX2_beginYear_12 F2_29 (shp_house (by omega)) (Or.inl rfl) rfl (fun ι12 e_ι12 => ?_)
  exact x_return DX2_beginYear_15 rfl ⟨rfl, by subst_vars; rfl, rfl, rfl⟩
theorem x_handsHere (K : gK)  (ι : gIm) (ρ : gRm) (Λ : gLm) (hF : gFix ρ Λ) (nh : Nat) (hH : ι 4 2 = nI nh) (hn : nh ≤ 24) (hAl : ∀ i, i < nh → ρ 5 i = some (100 + i)) : gCe K 1 0 0 jX3_handsHere [vR 4] ι ρ Λ (some (vI (sHands (hr ι 4) (hr ι 2) nh))) ι ρ Λ := by
  refine gC_of (by decide) (nle rfl) ?_
  refine x_iconst 0 DX3_handsHere_0 (by decide) ?_
  refine x_istore_n 1 (lv' := [some (vR 4), some (vI 0), none]) DX3_handsHere_1 rfl ⟨nlt rfl, nlt rfl⟩ rfl ?_
  refine x_iconst 0 DX3_handsHere_2 (by decide) ?_
  refine x_istore_n 2 (lv' := [some (vR 4), some (vI 0), some (vI 0)]) DX3_handsHere_3 rfl ⟨nlt rfl, nlt rfl⟩ rfl ?_
  refine x_lv (lv' := [some (vR 4), some (vI 0), some (vI (nI 0))]) (lvS (lvS (lvI nI_0.symm rfl))) ?_
  refine lp0 (W := fun i a => gX K none 1 0 0 jX3_handsHere 4 [some (vR 4), some (vI a), some (vI (nI i))] [] 0 0 ι ρ Λ _) (fun i a => a + (if hr ι 4 i = 0 then 0 else hr ι 2 i)) nh (fun i a hi ih => ?_) 0 0 (by omega) ?_
  · refine x_iload_n 2 DX3_handsHere_4 rfl rfl ?_
    refine x_aload_n 0 DX3_handsHere_5 rfl rfl ?_
    refine x_geti (v := (nI nh)) 2 DX3_handsHere_6 (Or.inl F3_21) rfl rfl hH ?_
    refine x_icmp_ge 42 DX3_handsHere_9 (by decide) (fun c_9 => False.elim (by rw [nI_le1 (by omega) (by omega)] at c_9; omega)) (fun c_9 => ?_)
    refine x_aload_n 0 DX3_handsHere_12 rfl rfl ?_
    refine x_getr 0 (some 5) DX3_handsHere_13 (Or.inr F3_11) rfl rfl (hF.1 4 0 5 rfl) ?_
    refine x_iload_n 2 DX3_handsHere_16 rfl rfl ?_
    refine x_aald (t := 3) i (some (100 + i)) (nI_cl1 (by omega)) DX3_handsHere_17 rfl ⟨by decide, by decide⟩ (gIn.fx hF (c := 5) (n := 24) rfl (gIn_nI (by omega) (by omega))) (hAl i (by omega)) ?_
    refine x_geti (v := (ι (100 + i) 4)) 4 DX3_handsHere_18 (Or.inl F3_28) (shp_house (by omega)) rfl rfl ?_
    refine x_if_eq 36 DX3_handsHere_21 (by decide) (fun c_21 => ?_) (fun c_21 => ?_)
    · refine x_iinc ((nI i) + 1) (lv' := [some (vR 4), some (vI a), some (vI ((nI i) + 1))]) DX3_handsHere_36 rfl rfl (nlt rfl) rfl ?_
      refine x_goto 4 DX3_handsHere_39 (by decide) ?_
      refine x_lv (lv' := [some (vR 4), some (vI (a + (if hr ι 4 i = 0 then 0 else hr ι 2 i))), some (vI (nI (i + 1)))]) (lvS (lvI (by grind [hr]) (lvI (nI_1 i) rfl))) ?_
      exact ih
    · refine x_iload_n 1 DX3_handsHere_24 rfl rfl ?_
      refine x_aload_n 0 DX3_handsHere_25 rfl rfl ?_
      refine x_getr 0 (some 5) DX3_handsHere_26 (Or.inr F3_11) rfl rfl (hF.1 4 0 5 rfl) ?_
      refine x_iload_n 2 DX3_handsHere_29 rfl rfl ?_
      refine x_aald (t := 3) i (some (100 + i)) (nI_cl1 (by omega)) DX3_handsHere_30 rfl ⟨by decide, by decide⟩ (gIn.fx hF (c := 5) (n := 24) rfl (gIn_nI (by omega) (by omega))) (hAl i (by omega)) ?_
      refine x_geti (v := (ι (100 + i) 2)) 2 DX3_handsHere_31 (Or.inl F3_32) (shp_house (by omega)) rfl rfl ?_
      refine x_iadd DX3_handsHere_34 ?_
      refine x_istore_n 1 (lv' := [some (vR 4), some (vI (a + (ι (100 + i) 2))), some (vI (nI i))]) DX3_handsHere_35 rfl ⟨nlt rfl, nlt rfl⟩ rfl ?_
      refine x_iinc ((nI i) + 1) (lv' := [some (vR 4), some (vI (a + (ι (100 + i) 2))), some (vI ((nI i) + 1))]) DX3_handsHere_36 rfl rfl (nlt rfl) rfl ?_
      refine x_goto 4 DX3_handsHere_39 (by decide) ?_
      refine x_lv (lv' := [some (vR 4), some (vI (a + (if hr ι 4 i = 0 then 0 else hr ι 2 i))), some (vI (nI (i + 1)))]) (lvS (lvI (by grind [hr]) (lvI (nI_1 i) rfl))) ?_
      exact ih
  · show gX K none 1 0 0 jX3_handsHere 4 [some (vR 4), some (vI (sHands (hr ι 4) (hr ι 2) nh)), some (vI (nI nh))] [] 0 0 ι ρ Λ _
    refine x_iload_n 2 DX3_handsHere_4 rfl rfl ?_
    refine x_aload_n 0 DX3_handsHere_5 rfl rfl ?_
    refine x_geti (v := (nI nh)) 2 DX3_handsHere_6 (Or.inl F3_21) rfl rfl hH ?_
    refine x_icmp_ge 42 DX3_handsHere_9 (by decide) (fun c_9 => ?_) (fun c_9 => False.elim (c_9 (nI_le (by omega) (by omega))))
    refine x_iload_n 1 DX3_handsHere_42 rfl rfl ?_
    exact x_ireturn DX3_handsHere_43 rfl ⟨rfl, rfl, rfl, rfl⟩
theorem x_fathomsOf (K : gK) (v what : Int32) (ι : gIm) (ρ : gRm) (Λ : gLm) (hF : gFix ρ Λ) (nh : Nat) (hH : ι 4 2 = nI nh) (hn : nh ≤ 24) (hAl : ∀ i, i < nh → ρ 5 i = some (100 + i)) : gCe K 3 0 0 jX3_fathomsOf [vR 4, vI v, vI what] ι ρ Λ (some (vI (xBrought (hr ι 1) (hr ι 5) (hr ι 6) nh v what))) ι ρ Λ := by
  refine gC_of (by decide) (nle rfl) ?_
  refine x_iconst 0 DX3_fathomsOf_0 (by decide) ?_
  refine x_istore_n 3 (lv' := [some (vR 4), some (vI v), some (vI what), some (vI 0), none]) DX3_fathomsOf_1 rfl ⟨nlt rfl, nlt rfl⟩ rfl ?_
  refine x_iconst 0 DX3_fathomsOf_2 (by decide) ?_
  refine x_istore (lv' := [some (vR 4), some (vI v), some (vI what), some (vI 0), some (vI 0)]) DX3_fathomsOf_3 ⟨nlt rfl, nlt rfl⟩ rfl ?_
  refine x_lv (lv' := [some (vR 4), some (vI v), some (vI what), some (vI 0), some (vI (nI 0))]) (lvS (lvS (lvS (lvS (lvI nI_0.symm rfl))))) ?_
  refine lp0 (W := fun i a => gX K none 3 0 0 jX3_fathomsOf 5 [some (vR 4), some (vI v), some (vI what), some (vI a), some (vI (nI i))] [] 0 0 ι ρ Λ _) (fun i a => if v = -1 ∨ hr ι 1 i = v then a + sFath what (hr ι 5 i) (hr ι 6 i) else a) nh (fun i a hi ih => ?_) 0 0 (by omega) ?_
  · refine x_iload DX3_fathomsOf_5 rfl ?_
    refine x_aload_n 0 DX3_fathomsOf_7 rfl rfl ?_
    refine x_geti (v := (nI nh)) 2 DX3_fathomsOf_8 (Or.inl F3_21) rfl rfl hH ?_
    refine x_icmp_ge 53 DX3_fathomsOf_11 (by decide) (fun c_11 => False.elim (by rw [nI_le1 (by omega) (by omega)] at c_11; omega)) (fun c_11 => ?_)
    refine x_iload_n 1 DX3_fathomsOf_14 rfl rfl ?_
    refine x_iconst (-1) DX3_fathomsOf_15 (by decide) ?_
    refine x_icmp_eq 33 DX3_fathomsOf_16 (by decide) (fun c_16 => ?_) (fun c_16 => ?_)
    · refine x_iload_n 3 DX3_fathomsOf_33 rfl rfl ?_
      refine x_aload_n 0 DX3_fathomsOf_34 rfl rfl ?_
      refine x_getr 0 (some 5) DX3_fathomsOf_35 (Or.inr F3_11) rfl rfl (hF.1 4 0 5 rfl) ?_
      refine x_iload DX3_fathomsOf_38 rfl ?_
      refine x_aald (t := 3) i (some (100 + i)) (nI_cl1 (by omega)) DX3_fathomsOf_40 rfl ⟨by decide, by decide⟩ (gIn.fx hF (c := 5) (n := 24) rfl (gIn_nI (by omega) (by omega))) (hAl i (by omega)) ?_
      refine x_iload_n 2 DX3_fathomsOf_41 rfl rfl ?_
      refine x_Ve (ci := 2) (av := [vI what]) (rest := [vI a]) (st' := [vI (sFath what (ι (100 + i) 5) (ι (100 + i) 6)), vI a]) 0 0 DX3_fathomsOf_42 L3_38 rfl rfl (shp_house (by omega)) rfl rfl ⟨nle rfl, nle rfl, nle rfl⟩ ⟨rfl, nle rfl⟩ ⟨rfl, nle rfl⟩ (x_fathomsAs K what ι ρ Λ i (by omega)) rfl ?_
      refine x_iadd DX3_fathomsOf_45 ?_
      refine x_istore_n 3 (lv' := [some (vR 4), some (vI v), some (vI what), some (vI (a + (sFath what (ι (100 + i) 5) (ι (100 + i) 6)))), some (vI (nI i))]) DX3_fathomsOf_46 rfl ⟨nlt rfl, nlt rfl⟩ rfl ?_
      refine x_iinc ((nI i) + 1) (lv' := [some (vR 4), some (vI v), some (vI what), some (vI (a + (sFath what (ι (100 + i) 5) (ι (100 + i) 6)))), some (vI ((nI i) + 1))]) DX3_fathomsOf_47 rfl rfl (nlt rfl) rfl ?_
      refine x_goto 5 DX3_fathomsOf_50 (by decide) ?_
      refine x_lv (lv' := [some (vR 4), some (vI v), some (vI what), some (vI (if v = -1 ∨ hr ι 1 i = v then a + sFath what (hr ι 5 i) (hr ι 6 i) else a)), some (vI (nI (i + 1)))]) (lvS (lvS (lvS (lvI (by grind [hr]) (lvI (nI_1 i) rfl))))) ?_
      exact ih
    · refine x_aload_n 0 DX3_fathomsOf_19 rfl rfl ?_
      refine x_getr 0 (some 5) DX3_fathomsOf_20 (Or.inr F3_11) rfl rfl (hF.1 4 0 5 rfl) ?_
      refine x_iload DX3_fathomsOf_23 rfl ?_
      refine x_aald (t := 3) i (some (100 + i)) (nI_cl1 (by omega)) DX3_fathomsOf_25 rfl ⟨by decide, by decide⟩ (gIn.fx hF (c := 5) (n := 24) rfl (gIn_nI (by omega) (by omega))) (hAl i (by omega)) ?_
      refine x_geti (v := (ι (100 + i) 1)) 1 DX3_fathomsOf_26 (Or.inr F3_35) (shp_house (by omega)) rfl rfl ?_
      refine x_iload_n 1 DX3_fathomsOf_29 rfl rfl ?_
      refine x_icmp_ne 47 DX3_fathomsOf_30 (by decide) (fun c_30 => ?_) (fun c_30 => ?_)
      · refine x_iinc ((nI i) + 1) (lv' := [some (vR 4), some (vI v), some (vI what), some (vI a), some (vI ((nI i) + 1))]) DX3_fathomsOf_47 rfl rfl (nlt rfl) rfl ?_
        refine x_goto 5 DX3_fathomsOf_50 (by decide) ?_
        refine x_lv (lv' := [some (vR 4), some (vI v), some (vI what), some (vI (if v = -1 ∨ hr ι 1 i = v then a + sFath what (hr ι 5 i) (hr ι 6 i) else a)), some (vI (nI (i + 1)))]) (lvS (lvS (lvS (lvI (by grind [hr]) (lvI (nI_1 i) rfl))))) ?_
        exact ih
      · refine x_iload_n 3 DX3_fathomsOf_33 rfl rfl ?_
        refine x_aload_n 0 DX3_fathomsOf_34 rfl rfl ?_
        refine x_getr 0 (some 5) DX3_fathomsOf_35 (Or.inr F3_11) rfl rfl (hF.1 4 0 5 rfl) ?_
        refine x_iload DX3_fathomsOf_38 rfl ?_
        refine x_aald (t := 3) i (some (100 + i)) (nI_cl1 (by omega)) DX3_fathomsOf_40 rfl ⟨by decide, by decide⟩ (gIn.fx hF (c := 5) (n := 24) rfl (gIn_nI (by omega) (by omega))) (hAl i (by omega)) ?_
        refine x_iload_n 2 DX3_fathomsOf_41 rfl rfl ?_
        refine x_Ve (ci := 2) (av := [vI what]) (rest := [vI a]) (st' := [vI (sFath what (ι (100 + i) 5) (ι (100 + i) 6)), vI a]) 0 0 DX3_fathomsOf_42 L3_38 rfl rfl (shp_house (by omega)) rfl rfl ⟨nle rfl, nle rfl, nle rfl⟩ ⟨rfl, nle rfl⟩ ⟨rfl, nle rfl⟩ (x_fathomsAs K what ι ρ Λ i (by omega)) rfl ?_
        refine x_iadd DX3_fathomsOf_45 ?_
        refine x_istore_n 3 (lv' := [some (vR 4), some (vI v), some (vI what), some (vI (a + (sFath what (ι (100 + i) 5) (ι (100 + i) 6)))), some (vI (nI i))]) DX3_fathomsOf_46 rfl ⟨nlt rfl, nlt rfl⟩ rfl ?_
        refine x_iinc ((nI i) + 1) (lv' := [some (vR 4), some (vI v), some (vI what), some (vI (a + (sFath what (ι (100 + i) 5) (ι (100 + i) 6)))), some (vI ((nI i) + 1))]) DX3_fathomsOf_47 rfl rfl (nlt rfl) rfl ?_
        refine x_goto 5 DX3_fathomsOf_50 (by decide) ?_
        refine x_lv (lv' := [some (vR 4), some (vI v), some (vI what), some (vI (if v = -1 ∨ hr ι 1 i = v then a + sFath what (hr ι 5 i) (hr ι 6 i) else a)), some (vI (nI (i + 1)))]) (lvS (lvS (lvS (lvI (by grind [hr]) (lvI (nI_1 i) rfl))))) ?_
        exact ih
  · show gX K none 3 0 0 jX3_fathomsOf 5 [some (vR 4), some (vI v), some (vI what), some (vI (xBrought (hr ι 1) (hr ι 5) (hr ι 6) nh v what)), some (vI (nI nh))] [] 0 0 ι ρ Λ _
    refine x_iload DX3_fathomsOf_5 rfl ?_
    refine x_aload_n 0 DX3_fathomsOf_7 rfl rfl ?_
    refine x_geti (v := (nI nh)) 2 DX3_fathomsOf_8 (Or.inl F3_21) rfl rfl hH ?_
    refine x_icmp_ge 53 DX3_fathomsOf_11 (by decide) (fun c_11 => ?_) (fun c_11 => False.elim (c_11 (nI_le (by omega) (by omega))))
    refine x_iload_n 3 DX3_fathomsOf_53 rfl rfl ?_
    exact x_ireturn DX3_fathomsOf_54 rfl ⟨rfl, rfl, rfl, rfl⟩
theorem x_goesAhead (K : gK)  (ι : gIm) (ρ : gRm) (Λ : gLm) (i h : Nat) (hi : i < 100) (hh : h < 100) : gCe K 1 0 0 jX3_goesAhead [vR (100 + i), vR (100 + h)] ι ρ Λ (some (vI (if hr ι 8 h < hr ι 8 i ∨ (hr ι 8 i = hr ι 8 h ∧ hr ι 0 i < hr ι 0 h) then 1 else 0))) ι ρ Λ := by
  refine gC_of (by decide) (nle rfl) ?_
  refine x_aload_n 0 DX3_goesAhead_0 rfl rfl ?_
  refine x_geti (v := (ι (100 + i) 8)) 8 DX3_goesAhead_1 (Or.inl F3_53) (shp_house (by omega)) rfl rfl ?_
  refine x_aload_n 1 DX3_goesAhead_4 rfl rfl ?_
  refine x_geti (v := (ι (100 + h) 8)) 8 DX3_goesAhead_5 (Or.inl F3_53) (shp_house (by omega)) rfl rfl ?_
  refine x_icmp_gt 33 DX3_goesAhead_8 (by decide) (fun c_8 => ?_) (fun c_8 => ?_)
  · refine x_iconst 1 DX3_goesAhead_33 (by decide) ?_
    refine x_goto 38 DX3_goesAhead_34 (by decide) ?_
    exact x_zreturn DX3_goesAhead_38 rfl (Or.inr rfl) ⟨by grind [hr], rfl, rfl, rfl⟩
  · refine x_aload_n 0 DX3_goesAhead_11 rfl rfl ?_
    refine x_geti (v := (ι (100 + i) 8)) 8 DX3_goesAhead_12 (Or.inl F3_53) (shp_house (by omega)) rfl rfl ?_
    refine x_aload_n 1 DX3_goesAhead_15 rfl rfl ?_
    refine x_geti (v := (ι (100 + h) 8)) 8 DX3_goesAhead_16 (Or.inl F3_53) (shp_house (by omega)) rfl rfl ?_
    refine x_icmp_ne 37 DX3_goesAhead_19 (by decide) (fun c_19 => ?_) (fun c_19 => ?_)
    · refine x_iconst 0 DX3_goesAhead_37 (by decide) ?_
      exact x_zreturn DX3_goesAhead_38 rfl (Or.inl rfl) ⟨by grind [hr], rfl, rfl, rfl⟩
    · refine x_aload_n 0 DX3_goesAhead_22 rfl rfl ?_
      refine x_geti (v := (ι (100 + i) 0)) 0 DX3_goesAhead_23 (Or.inr F3_56) (shp_house (by omega)) rfl rfl ?_
      refine x_aload_n 1 DX3_goesAhead_26 rfl rfl ?_
      refine x_geti (v := (ι (100 + h) 0)) 0 DX3_goesAhead_27 (Or.inr F3_56) (shp_house (by omega)) rfl rfl ?_
      refine x_icmp_ge 37 DX3_goesAhead_30 (by decide) (fun c_30 => ?_) (fun c_30 => ?_)
      · refine x_iconst 0 DX3_goesAhead_37 (by decide) ?_
        exact x_zreturn DX3_goesAhead_38 rfl (Or.inl rfl) ⟨by grind [hr], rfl, rfl, rfl⟩
      · refine x_iconst 1 DX3_goesAhead_33 (by decide) ?_
        refine x_goto 38 DX3_goesAhead_34 (by decide) ?_
        exact x_zreturn DX3_goesAhead_38 rfl (Or.inr rfl) ⟨by grind [hr], rfl, rfl, rfl⟩
theorem x_shareOf (K : gK)  (ι : gIm) (ρ : gRm) (Λ : gLm) (hF : gFix ρ Λ) (nh : Nat) (hH : ι 4 2 = nI nh) (hn : nh ≤ 24) (hAl : ∀ i, i < nh → ρ 5 i = some (100 + i)) (hNm : ∀ i, i < nh → hr ι 0 i = nI i) (h : Nat) (hh : h < nh) (hall : hr ι 4 h ≠ 0 → 0 < sHands (hr ι 4) (hr ι 2) nh) : gCe K 2 0 0 jX3_shareOf [vR 4, vR (100 + h)] ι ρ Λ (some (vI (sShare (hr ι 4) (hr ι 2) (hr ι 8) nh (ι 4 3) h))) ι ρ Λ := by
  refine gC_of (by decide) (nle rfl) ?_
  refine x_aload_n 0 DX3_shareOf_0 rfl rfl ?_
  refine x_Ve (ci := 3) (av := []) (rest := []) (st' := [vI (sHands (hr ι 4) (hr ι 2) nh)]) 0 0 DX3_shareOf_1 L3_42 rfl rfl rfl rfl rfl ⟨nle rfl, nle rfl, nle rfl⟩ ⟨rfl, nle rfl⟩ ⟨rfl, nle rfl⟩ (x_handsHere K ι ρ Λ hF nh hH hn hAl) rfl ?_
  refine x_istore_n 2 (lv' := [some (vR 4), some (vR (100 + h)), some (vI (sHands (hr ι 4) (hr ι 2) nh)), none, none, none, none]) DX3_shareOf_4 rfl ⟨nlt rfl, nlt rfl⟩ rfl ?_
  refine x_aload_n 1 DX3_shareOf_5 rfl rfl ?_
  refine x_geti (v := (ι (100 + h) 4)) 4 DX3_shareOf_6 (Or.inl F3_28) (shp_house (by omega)) rfl rfl ?_
  refine x_if_eq 16 DX3_shareOf_9 (by decide) (fun c_9 => ?_) (fun c_9 => ?_)
  · refine x_iconst 0 DX3_shareOf_16 (by decide) ?_
    exact x_ireturn DX3_shareOf_17 rfl ⟨by grind [sShare, hr], rfl, rfl, rfl⟩
  · refine x_iload_n 2 DX3_shareOf_12 rfl rfl ?_
    refine x_if_gt 18 DX3_shareOf_13 (by decide) (fun c_13 => ?_) (fun c_13 => False.elim (by have := hall (by assumption); grind))
    have hall : ¬ sHands (hr ι 4) (hr ι 2) nh = 0 := by have := hall (by assumption); grind
    refine x_aload_n 0 DX3_shareOf_18 rfl rfl ?_
    refine x_geti (v := (ι 4 3)) 3 DX3_shareOf_19 (Or.inl F3_46) rfl rfl rfl ?_
    refine x_istore_n 3 (lv' := [some (vR 4), some (vR (100 + h)), some (vI (sHands (hr ι 4) (hr ι 2) nh)), some (vI (ι 4 3)), none, none, none]) DX3_shareOf_22 rfl ⟨nlt rfl, nlt rfl⟩ rfl ?_
    refine x_iconst 0 DX3_shareOf_23 (by decide) ?_
    refine x_istore (lv' := [some (vR 4), some (vR (100 + h)), some (vI (sHands (hr ι 4) (hr ι 2) nh)), some (vI (ι 4 3)), some (vI 0), none, none]) DX3_shareOf_24 ⟨nlt rfl, nlt rfl⟩ rfl ?_
    refine x_iconst 0 DX3_shareOf_26 (by decide) ?_
    refine x_istore (lv' := [some (vR 4), some (vR (100 + h)), some (vI (sHands (hr ι 4) (hr ι 2) nh)), some (vI (ι 4 3)), some (vI 0), some (vI 0), none]) DX3_shareOf_27 ⟨nlt rfl, nlt rfl⟩ rfl ?_
    refine lp0 (W := fun (i : Nat) (a : Int32 × Int32) => gX K none 2 0 0 jX3_shareOf 29 [some (vR 4), some (vR (100 + h)), some (vI (sHands (hr ι 4) (hr ι 2) nh)), some (vI a.1), some (vI a.2), some (vI (nI i)), none] [] 0 0 ι ρ Λ _) (fun i a => if hr ι 4 i = 0 then a else (a.1 - ι 4 3 * hr ι 2 i / (sHands (hr ι 4) (hr ι 2) nh), a.2 + (if hr ι 8 h < hr ι 8 i ∨ (hr ι 8 i = hr ι 8 h ∧ i < h) then 1 else 0))) nh (fun i a hi ih => ?_) 0 (ι 4 3, 0) (by omega) ?_
    · refine x_iload DX3_shareOf_29 rfl ?_
      refine x_aload_n 0 DX3_shareOf_31 rfl rfl ?_
      refine x_geti (v := (nI nh)) 2 DX3_shareOf_32 (Or.inl F3_21) rfl rfl hH ?_
      refine x_icmp_ge 95 DX3_shareOf_35 (by decide) (fun c_35 => False.elim (by rw [nI_le1 (by omega) (by omega)] at c_35; omega)) (fun c_35 => ?_)
      refine x_aload_n 0 DX3_shareOf_38 rfl rfl ?_
      refine x_getr 0 (some 5) DX3_shareOf_39 (Or.inr F3_11) rfl rfl (hF.1 4 0 5 rfl) ?_
      refine x_iload DX3_shareOf_42 rfl ?_
      refine x_aald (t := 3) i (some (100 + i)) (nI_cl1 (by omega)) DX3_shareOf_44 rfl ⟨by decide, by decide⟩ (gIn.fx hF (c := 5) (n := 24) rfl (gIn_nI (by omega) (by omega))) (hAl i (by omega)) ?_
      refine x_astore (lv' := [some (vR 4), some (vR (100 + h)), some (vI (sHands (hr ι 4) (hr ι 2) nh)), some (vI a.1), some (vI a.2), some (vI (nI i)), some (vR (100 + i))]) DX3_shareOf_45 ⟨nlt rfl, nlt rfl⟩ rfl ?_
      refine x_aload DX3_shareOf_47 rfl ?_
      refine x_geti (v := (ι (100 + i) 4)) 4 DX3_shareOf_49 (Or.inl F3_28) (shp_house (by omega)) rfl rfl ?_
      refine x_if_eq 89 DX3_shareOf_52 (by decide) (fun c_52 => ?_) (fun c_52 => ?_)
      · refine x_iinc ((nI i) + 1) (lv' := [some (vR 4), some (vR (100 + h)), some (vI (sHands (hr ι 4) (hr ι 2) nh)), some (vI a.1), some (vI a.2), some (vI ((nI i) + 1)), some (vR (100 + i))]) DX3_shareOf_89 rfl rfl (nlt rfl) rfl ?_
        refine x_goto 29 DX3_shareOf_92 (by decide) ?_
        refine x_less (lv' := [some (vR 4), some (vR (100 + h)), some (vI (sHands (hr ι 4) (hr ι 2) nh)), some (vI a.1), some (vI a.2), some (vI ((nI i) + 1)), none]) (less_ok (m := [true, true, true, true, true, true, false]) rfl) ?_
        have ea : (if hr ι 4 i = 0 then a else (a.1 - ι 4 3 * hr ι 2 i / (sHands (hr ι 4) (hr ι 2) nh), a.2 + (if hr ι 8 h < hr ι 8 i ∨ (hr ι 8 i = hr ι 8 h ∧ i < h) then 1 else 0))) = a := if_pos (by assumption)
        rw [ea, ← nI_1] at ih
        exact ih
      · refine x_iload_n 3 DX3_shareOf_55 rfl rfl ?_
        refine x_aload_n 0 DX3_shareOf_56 rfl rfl ?_
        refine x_geti (v := (ι 4 3)) 3 DX3_shareOf_57 (Or.inl F3_46) rfl rfl rfl ?_
        refine x_aload DX3_shareOf_60 rfl ?_
        refine x_geti (v := (ι (100 + i) 2)) 2 DX3_shareOf_62 (Or.inl F3_32) (shp_house (by omega)) rfl rfl ?_
        refine x_imul DX3_shareOf_65 ?_
        refine x_iload_n 2 DX3_shareOf_66 rfl rfl ?_
        refine x_idiv DX3_shareOf_67 hall ?_
        refine x_isub DX3_shareOf_68 ?_
        refine x_istore_n 3 (lv' := [some (vR 4), some (vR (100 + h)), some (vI (sHands (hr ι 4) (hr ι 2) nh)), some (vI (a.1 - (((ι 4 3) * (ι (100 + i) 2)) / (sHands (hr ι 4) (hr ι 2) nh)))), some (vI a.2), some (vI (nI i)), some (vR (100 + i))]) DX3_shareOf_69 rfl ⟨nlt rfl, nlt rfl⟩ rfl ?_
        refine x_iload DX3_shareOf_70 rfl ?_
        refine x_aload DX3_shareOf_72 rfl ?_
        refine x_aload_n 1 DX3_shareOf_74 rfl rfl ?_
        refine x_Se (av := [vR (100 + i), vR (100 + h)]) (rest := [vI a.2]) (st' := [vI (if hr ι 8 h < hr ι 8 i ∨ (hr ι 8 i = hr ι 8 h ∧ hr ι 0 i < hr ι 0 h) then 1 else 0), vI a.2]) 0 0 DX3_shareOf_75 L3_49 rfl rfl ⟨nle rfl, nle rfl, nle rfl⟩ ⟨rfl, nle rfl⟩ ⟨rfl, nle rfl⟩ (x_goesAhead K ι ρ Λ i h (by omega) (by omega)) rfl ?_
        refine x_if_eq 85 DX3_shareOf_78 (by decide) (fun c_78 => ?_) (fun c_78 => ?_)
        · refine x_iconst 0 DX3_shareOf_85 (by decide) ?_
          refine x_iadd DX3_shareOf_86 ?_
          refine x_istore (lv' := [some (vR 4), some (vR (100 + h)), some (vI (sHands (hr ι 4) (hr ι 2) nh)), some (vI (a.1 - (((ι 4 3) * (ι (100 + i) 2)) / (sHands (hr ι 4) (hr ι 2) nh)))), some (vI (a.2 + 0)), some (vI (nI i)), some (vR (100 + i))]) DX3_shareOf_87 ⟨nlt rfl, nlt rfl⟩ rfl ?_
          refine x_iinc ((nI i) + 1) (lv' := [some (vR 4), some (vR (100 + h)), some (vI (sHands (hr ι 4) (hr ι 2) nh)), some (vI (a.1 - (((ι 4 3) * (ι (100 + i) 2)) / (sHands (hr ι 4) (hr ι 2) nh)))), some (vI (a.2 + 0)), some (vI ((nI i) + 1)), some (vR (100 + i))]) DX3_shareOf_89 rfl rfl (nlt rfl) rfl ?_
          refine x_goto 29 DX3_shareOf_92 (by decide) ?_
          refine x_less (lv' := [some (vR 4), some (vR (100 + h)), some (vI (sHands (hr ι 4) (hr ι 2) nh)), some (vI (a.1 - (((ι 4 3) * (ι (100 + i) 2)) / (sHands (hr ι 4) (hr ι 2) nh)))), some (vI (a.2 + 0)), some (vI ((nI i) + 1)), none]) (less_ok (m := [true, true, true, true, true, true, false]) rfl) ?_
          have hlt : nI i < nI h ↔ i < h := nI_lt1 (by omega) (by omega)
          have hn1 := hNm i hi
          have hn2 := hNm h hh
          have ea : (if hr ι 4 i = 0 then a else (a.1 - ι 4 3 * hr ι 2 i / (sHands (hr ι 4) (hr ι 2) nh), a.2 + (if hr ι 8 h < hr ι 8 i ∨ (hr ι 8 i = hr ι 8 h ∧ i < h) then 1 else 0))) = ((a.1 - (((ι 4 3) * (ι (100 + i) 2)) / (sHands (hr ι 4) (hr ι 2) nh))), (a.2 + 0)) := by grind [hr]
          rw [ea, ← nI_1] at ih
          exact ih
        · refine x_iconst 1 DX3_shareOf_81 (by decide) ?_
          refine x_goto 86 DX3_shareOf_82 (by decide) ?_
          refine x_iadd DX3_shareOf_86 ?_
          refine x_istore (lv' := [some (vR 4), some (vR (100 + h)), some (vI (sHands (hr ι 4) (hr ι 2) nh)), some (vI (a.1 - (((ι 4 3) * (ι (100 + i) 2)) / (sHands (hr ι 4) (hr ι 2) nh)))), some (vI (a.2 + 1)), some (vI (nI i)), some (vR (100 + i))]) DX3_shareOf_87 ⟨nlt rfl, nlt rfl⟩ rfl ?_
          refine x_iinc ((nI i) + 1) (lv' := [some (vR 4), some (vR (100 + h)), some (vI (sHands (hr ι 4) (hr ι 2) nh)), some (vI (a.1 - (((ι 4 3) * (ι (100 + i) 2)) / (sHands (hr ι 4) (hr ι 2) nh)))), some (vI (a.2 + 1)), some (vI ((nI i) + 1)), some (vR (100 + i))]) DX3_shareOf_89 rfl rfl (nlt rfl) rfl ?_
          refine x_goto 29 DX3_shareOf_92 (by decide) ?_
          refine x_less (lv' := [some (vR 4), some (vR (100 + h)), some (vI (sHands (hr ι 4) (hr ι 2) nh)), some (vI (a.1 - (((ι 4 3) * (ι (100 + i) 2)) / (sHands (hr ι 4) (hr ι 2) nh)))), some (vI (a.2 + 1)), some (vI ((nI i) + 1)), none]) (less_ok (m := [true, true, true, true, true, true, false]) rfl) ?_
          have hlt : nI i < nI h ↔ i < h := nI_lt1 (by omega) (by omega)
          have hn1 := hNm i hi
          have hn2 := hNm h hh
          have ea : (if hr ι 4 i = 0 then a else (a.1 - ι 4 3 * hr ι 2 i / (sHands (hr ι 4) (hr ι 2) nh), a.2 + (if hr ι 8 h < hr ι 8 i ∨ (hr ι 8 i = hr ι 8 h ∧ i < h) then 1 else 0))) = ((a.1 - (((ι 4 3) * (ι (100 + i) 2)) / (sHands (hr ι 4) (hr ι 2) nh))), (a.2 + 1)) := by grind [hr]
          rw [ea, ← nI_1] at ih
          exact ih
    · show gX K none 2 0 0 jX3_shareOf 29 [some (vR 4), some (vR (100 + h)), some (vI (sHands (hr ι 4) (hr ι 2) nh)), some (vI ((sLeft (hr ι 4) (hr ι 2) (hr ι 8) nh (ι 4 3) (sHands (hr ι 4) (hr ι 2) nh) h).1)), some (vI ((sLeft (hr ι 4) (hr ι 2) (hr ι 8) nh (ι 4 3) (sHands (hr ι 4) (hr ι 2) nh) h).2)), some (vI (nI nh)), none] [] 0 0 ι ρ Λ _
      refine x_iload DX3_shareOf_29 rfl ?_
      refine x_aload_n 0 DX3_shareOf_31 rfl rfl ?_
      refine x_geti (v := (nI nh)) 2 DX3_shareOf_32 (Or.inl F3_21) rfl rfl hH ?_
      refine x_icmp_ge 95 DX3_shareOf_35 (by decide) (fun c_35 => ?_) (fun c_35 => False.elim (c_35 (nI_le (by omega) (by omega))))
      refine x_aload_n 0 DX3_shareOf_95 rfl rfl ?_
      refine x_geti (v := (ι 4 3)) 3 DX3_shareOf_96 (Or.inl F3_46) rfl rfl rfl ?_
      refine x_aload_n 1 DX3_shareOf_99 rfl rfl ?_
      refine x_geti (v := (ι (100 + h) 2)) 2 DX3_shareOf_100 (Or.inl F3_32) (shp_house (by omega)) rfl rfl ?_
      refine x_imul DX3_shareOf_103 ?_
      refine x_iload_n 2 DX3_shareOf_104 rfl rfl ?_
      refine x_idiv DX3_shareOf_105 hall ?_
      refine x_iload DX3_shareOf_106 rfl ?_
      refine x_iload_n 3 DX3_shareOf_108 rfl rfl ?_
      refine x_icmp_ge 116 DX3_shareOf_109 (by decide) (fun c_109 => ?_) (fun c_109 => ?_)
      · refine x_iconst 0 DX3_shareOf_116 (by decide) ?_
        refine x_iadd DX3_shareOf_117 ?_
        exact x_ireturn DX3_shareOf_118 rfl ⟨by grind [sShare, hr], rfl, rfl, rfl⟩
      · refine x_iconst 1 DX3_shareOf_112 (by decide) ?_
        refine x_goto 117 DX3_shareOf_113 (by decide) ?_
        refine x_iadd DX3_shareOf_117 ?_
        exact x_ireturn DX3_shareOf_118 rfl ⟨by grind [sShare, hr], rfl, rfl, rfl⟩
