/-! the class, III: the houses' calls -/
theorem x_House (K : gK) (n v h : Int32) (ι : gIm) (ρ : gRm) (Λ : gLm) (i : Nat) (hi : i < 100) : gCe K 2 0 0 jX2_init [vR (100 + i), vI n, vI v, vI h] ι ρ Λ none (up2 (up2 (up2 (up2 (up2 ι (100 + i) 3 5) (100 + i) 4 1) (100 + i) 0 n) (100 + i) 1 v) (100 + i) 2 h) ρ Λ := by
  refine gC_of (by decide) (nle rfl) ?_
  refine x_aload_n 0 DX2_init_0 rfl rfl ?_
  refine x_objInit DX2_init_1 gw2_153 gw1_23 gw1_24 (nle rfl) (nle rfl) ?_
  refine x_aload_n 0 DX2_init_4 rfl rfl ?_
  refine x_iconst 5 DX2_init_5 (by decide) ?_
  refine x_puti 3 DX2_init_6 F2_9 (shp_house (by omega)) (Or.inl rfl) rfl (fun ι6 e_ι6 => ?_)
  refine x_aload_n 0 DX2_init_9 rfl rfl ?_
  refine x_iconst 1 DX2_init_10 (by decide) ?_
  refine x_puti 4 DX2_init_11 F2_13 (shp_house (by omega)) (Or.inr ⟨rfl, (Or.inr rfl)⟩) rfl (fun ι11 e_ι11 => ?_)
  refine x_aload_n 0 DX2_init_14 rfl rfl ?_
  refine x_iload_n 1 DX2_init_15 rfl rfl ?_
  refine x_putiF 0 DX2_init_16 F2_17 rfl rfl (shp_house (by omega)) (Or.inl rfl) rfl (fun ι16 e_ι16 => ?_)
  refine x_aload_n 0 DX2_init_19 rfl rfl ?_
  refine x_iload_n 2 DX2_init_20 rfl rfl ?_
  refine x_putiF 1 DX2_init_21 F2_20 rfl rfl (shp_house (by omega)) (Or.inl rfl) rfl (fun ι21 e_ι21 => ?_)
  refine x_aload_n 0 DX2_init_24 rfl rfl ?_
  refine x_iload_n 3 DX2_init_25 rfl rfl ?_
  refine x_puti 2 DX2_init_26 F2_23 (shp_house (by omega)) (Or.inl rfl) rfl (fun ι26 e_ι26 => ?_)
  exact x_return DX2_init_29 rfl ⟨rfl, by subst_vars; rfl, rfl, rfl⟩
theorem x_found (K : gK) (v n : Int32) (ι : gIm) (ρ : gRm) (Λ : gLm) (hF : gFix ρ Λ) (nh : Nat) (hH : ι 4 2 = nI nh) (hn : nh < 24) (hfr : 100 + nh ∉ Λ.1) : gCe K 3 1 9 jX3_found [vR 4, vI v, vI n] ι ρ Λ (some (vI (nI nh))) (xHouseI ι nh v n) (xHouseR ρ nh) (xHouseL Λ nh) := by
  refine gC_of (by decide) (nle rfl) ?_
  refine x_aload_n 0 DX3_found_0 rfl rfl ?_
  refine x_geti (v := (nI nh)) 2 DX3_found_1 (Or.inl F3_21) rfl rfl hH ?_
  refine x_bipush 24 DX3_found_4 (by decide) ?_
  refine x_icmp_lt 12 DX3_found_6 (by decide) (fun c_6 => ?_) (fun c_6 => False.elim (c_6 (show nI nh < nI 24 from nI_lt (by omega) (by omega))))
  refine x_aload_n 0 DX3_found_12 rfl rfl ?_
  refine x_getr 0 (some 5) DX3_found_13 (Or.inr F3_11) rfl rfl (hF.1 4 0 5 rfl) ?_
  refine x_aload_n 0 DX3_found_16 rfl rfl ?_
  refine x_geti (v := (nI nh)) 2 DX3_found_17 (Or.inl F3_21) rfl rfl hH ?_
  refine x_new (ci := 2) (100 + nh) 9 DX3_found_20 (shp_house (by omega)) ("GrassBridge$House", gf2, 9) rfl rfl gw1_54 gw2_149 gw1_12 hfr (nle rfl) (nle rfl) (fun ι20 ρ20 Λ20 e_ι20 e_ρ20 e_Λ20 => ?_)
  refine x_widen 1 9 (nle rfl) (nle rfl) ?_
  have hF20 := gFix_new hF (c := 100 + nh) (by omega) e_ρ20 e_Λ20
  refine x_dup DX3_found_23 ?_
  refine x_aload_n 0 DX3_found_24 rfl rfl ?_
  refine x_geti (v := (nI nh)) 2 DX3_found_25 (Or.inl F3_21) rfl rfl ((rdn1 e_ι20 (by omega)).trans hH) ?_
  refine x_iload_n 1 DX3_found_28 rfl rfl ?_
  refine x_iload_n 2 DX3_found_29 rfl rfl ?_
  refine x_Ie (av := [vI (nI nh), vI v, vI n]) (rest := [vR (100 + nh), vI (nI nh), vR 5]) (st' := [vR (100 + nh), vI (nI nh), vR 5]) 1 9 DX3_found_30 L3_25 rfl rfl ⟨nle rfl, nle rfl, nle rfl⟩ ⟨rfl, nle rfl⟩ ⟨rfl, nle rfl⟩ (x_House K (nI nh) v n ι20 ρ20 Λ20 nh (by omega)) rfl ?_
  refine x_nmι (fun ι30 e_ι30 => ?_)
  refine x_aast (t := 3) (ci := 2) nh (nI_cl1 (by omega)) DX3_found_33 rfl ⟨by decide, by decide⟩ (gIn.fx hF20 (c := 5) (n := 24) rfl (gIn_nI (by omega) (by omega))) (shp_house (by omega)) rfl (fun ρ33 e_ρ33 => ?_)
  refine x_aload_n 0 DX3_found_34 rfl rfl ?_
  refine x_dup DX3_found_35 ?_
  refine x_geti (v := (nI nh)) 2 DX3_found_36 (Or.inl F3_21) rfl rfl (by rw [e_ι30, up2_ne _ _ _ (by omega), up2_ne _ _ _ (by omega), up2_ne _ _ _ (by omega), up2_ne _ _ _ (by omega), up2_ne _ _ _ (by omega), e_ι20, va_up_ne _ _ (by omega)]; exact hH) ?_
  refine x_dup_x1 DX3_found_39 ?_
  refine x_iconst 1 DX3_found_40 (by decide) ?_
  refine x_iadd DX3_found_41 ?_
  refine x_puti 2 DX3_found_42 F3_21 rfl (Or.inl rfl) rfl (fun ι42 e_ι42 => ?_)
  exact x_ireturn DX3_found_45 rfl ⟨rfl, by subst_vars; rfl, by subst_vars; rfl, by subst_vars; rfl⟩
theorem x_house (K : gK) (v n : Int32) (ι : gIm) (ρ : gRm) (Λ : gLm) (hF : gFix ρ Λ) (nh : Nat) (hH : ι 4 2 = nI nh) (hn : nh ≤ 24) (hfr : 100 + nh ∉ Λ.1) (hle : nI nh ≤ 24) : gCe K 4 1 9 jX11_house [vR 0, vI v, vI n] ι ρ Λ (some (vI (rs (cHouse v n (nI nh)) (nI nh)))) (rsM (cHouse v n (nI nh)) 1 ι (xHouseI ι nh v n)) (sel (cHouse v n (nI nh)) (xHouseR ρ nh) ρ) (sel (cHouse v n (nI nh)) (xHouseL Λ nh) Λ) := by
  refine gC_of (by decide) (nle rfl) ?_
  refine x_iload_n 1 DX11_house_0 rfl rfl ?_
  refine x_if_lt 9 DX11_house_1 (by decide) (fun c_1 => ?_) (fun c_1 => ?_)
  · refine x_aload_n 0 DX11_house_9 rfl rfl ?_
    refine x_iconst (-1) DX11_house_10 (by decide) ?_
    refine x_Ve (ci := 11) (av := [vI (-1)]) (rest := []) (st' := [vI (-1)]) 0 0 DX11_house_11 L11_72 rfl rfl rfl rfl rfl ⟨nle rfl, nle rfl, nle rfl⟩ ⟨rfl, nle rfl⟩ ⟨rfl, nle rfl⟩ (x_refuse K (-1) ι ρ Λ hF ⟨by decide, by decide⟩) rfl ?_
    refine x_nmι (fun ι11 e_ι11 => ?_)
    refine x_widen 1 9 (nle rfl) (nle rfl) ?_
    exact x_ireturn DX11_house_14 rfl ⟨by grind [cHouse, rs, wr], by grind [cHouse, rsM, wr], by grind [cHouse, sel, wr], by grind [cHouse, sel, wr]⟩
  · refine x_iload_n 1 DX11_house_4 rfl rfl ?_
    refine x_iconst 4 DX11_house_5 (by decide) ?_
    refine x_icmp_lt 15 DX11_house_6 (by decide) (fun c_6 => ?_) (fun c_6 => ?_)
    · refine x_iload_n 2 DX11_house_15 rfl rfl ?_
      refine x_iconst 1 DX11_house_16 (by decide) ?_
      refine x_bipush 9 DX11_house_17 (by decide) ?_
      refine x_Se (av := [vI n, vI 1, vI 9]) (rest := []) (st' := [vI (wr n 1 9)]) 0 0 DX11_house_19 L11_83 rfl rfl ⟨nle rfl, nle rfl, nle rfl⟩ ⟨rfl, nle rfl⟩ ⟨rfl, nle rfl⟩ (x_misfit K n 1 9 ι ρ Λ) rfl ?_
      refine x_istore_n 3 (lv' := [some (vR 0), some (vI v), some (vI n), some (vI (wr n 1 9))]) DX11_house_22 rfl ⟨nlt rfl, nlt rfl⟩ rfl ?_
      refine x_iload_n 3 DX11_house_23 rfl rfl ?_
      refine x_if_ne 42 DX11_house_24 (by decide) (fun c_24 => ?_) (fun c_24 => ?_)
      · refine x_iload_n 3 DX11_house_42 rfl rfl ?_
        refine x_if_eq 54 DX11_house_43 (by decide) (fun c_43 => False.elim (by grind)) (fun c_43 => ?_)
        refine x_aload_n 0 DX11_house_46 rfl rfl ?_
        refine x_iload_n 3 DX11_house_47 rfl rfl ?_
        refine x_Ve (ci := 11) (av := [vI (wr n 1 9)]) (rest := []) (st' := [vI (wr n 1 9)]) 0 0 DX11_house_48 L11_72 rfl rfl rfl rfl rfl ⟨nle rfl, nle rfl, nle rfl⟩ ⟨rfl, nle rfl⟩ ⟨rfl, nle rfl⟩ (x_refuse K (wr n 1 9) ι ρ Λ hF (wr_in _ _ _ (by assumption))) rfl ?_
        refine x_nmι (fun ι48 e_ι48 => ?_)
        refine x_goto 63 DX11_house_51 (by decide) ?_
        refine x_widen 1 9 (nle rfl) (nle rfl) ?_
        exact x_ireturn DX11_house_63 rfl ⟨by grind [cHouse, rs, wr], by grind [cHouse, rsM, wr], by grind [cHouse, sel, wr], by grind [cHouse, sel, wr]⟩
      · refine x_aload_n 0 DX11_house_27 rfl rfl ?_
        refine x_getr 2 (some 4) DX11_house_28 (Or.inr F11_23) rfl rfl (hF.1 0 2 4 rfl) ?_
        refine x_geti (v := (nI nh)) 2 DX11_house_31 (Or.inl F11_133) rfl rfl hH ?_
        refine x_bipush 24 DX11_house_34 (by decide) ?_
        refine x_icmp_lt 42 DX11_house_36 (by decide) (fun c_36 => ?_) (fun c_36 => ?_)
        · refine x_iload_n 3 DX11_house_42 rfl rfl ?_
          refine x_if_eq 54 DX11_house_43 (by decide) (fun c_43 => ?_) (fun c_43 => False.elim (by grind))
          refine x_aload_n 0 DX11_house_54 rfl rfl ?_
          refine x_getr 2 (some 4) DX11_house_55 (Or.inr F11_23) rfl rfl (hF.1 0 2 4 rfl) ?_
          refine x_iload_n 1 DX11_house_58 rfl rfl ?_
          refine x_iload_n 2 DX11_house_59 rfl rfl ?_
          refine x_Ve (ci := 3) (av := [vI v, vI n]) (rest := []) (st' := [vI (nI nh)]) 1 9 DX11_house_60 L11_136 rfl rfl rfl rfl rfl ⟨nle rfl, nle rfl, nle rfl⟩ ⟨rfl, nle rfl⟩ ⟨rfl, nle rfl⟩ (x_found K v n ι ρ Λ hF nh hH (by have h1 : nI nh < 24 := (by grind [cHouse]); exact house_lt (by grind) hn) hfr) rfl ?_
          refine x_nmι (fun ι60 e_ι60 => ?_)
          refine x_nmρ (fun ρ60 e_ρ60 => ?_)
          refine x_nmΛ (fun Λ60 e_Λ60 => ?_)
          exact x_ireturn DX11_house_63 rfl ⟨by grind [cHouse, rs, wr], by grind [cHouse, rsM, wr], by grind [cHouse, sel, wr], by grind [cHouse, sel, wr]⟩
        · refine x_bipush (-6) DX11_house_39 (by decide) ?_
          refine x_istore_n 3 (lv' := [some (vR 0), some (vI v), some (vI n), some (vI (-6))]) DX11_house_41 rfl ⟨nlt rfl, nlt rfl⟩ rfl ?_
          refine x_iload_n 3 DX11_house_42 rfl rfl ?_
          refine x_if_eq 54 DX11_house_43 (by decide) (fun h => absurd h (by decide)) (fun _ => ?_)
          refine x_aload_n 0 DX11_house_46 rfl rfl ?_
          refine x_iload_n 3 DX11_house_47 rfl rfl ?_
          refine x_Ve (ci := 11) (av := [vI (-6)]) (rest := []) (st' := [vI (-6)]) 0 0 DX11_house_48 L11_72 rfl rfl rfl rfl rfl ⟨nle rfl, nle rfl, nle rfl⟩ ⟨rfl, nle rfl⟩ ⟨rfl, nle rfl⟩ (x_refuse K (-6) ι ρ Λ hF ⟨by decide, by decide⟩) rfl ?_
          refine x_nmι (fun ι48 e_ι48 => ?_)
          refine x_goto 63 DX11_house_51 (by decide) ?_
          refine x_widen 1 9 (nle rfl) (nle rfl) ?_
          exact x_ireturn DX11_house_63 rfl ⟨by grind [cHouse, rs, wr], by grind [cHouse, rsM, wr], by grind [cHouse, sel, wr], by grind [cHouse, sel, wr]⟩
    · refine x_aload_n 0 DX11_house_9 rfl rfl ?_
      refine x_iconst (-1) DX11_house_10 (by decide) ?_
      refine x_Ve (ci := 11) (av := [vI (-1)]) (rest := []) (st' := [vI (-1)]) 0 0 DX11_house_11 L11_72 rfl rfl rfl rfl rfl ⟨nle rfl, nle rfl, nle rfl⟩ ⟨rfl, nle rfl⟩ ⟨rfl, nle rfl⟩ (x_refuse K (-1) ι ρ Λ hF ⟨by decide, by decide⟩) rfl ?_
      refine x_nmι (fun ι11 e_ι11 => ?_)
      refine x_widen 1 9 (nle rfl) (nle rfl) ?_
      exact x_ireturn DX11_house_14 rfl ⟨by grind [cHouse, rs, wr], by grind [cHouse, rsM, wr], by grind [cHouse, sel, wr], by grind [cHouse, sel, wr]⟩
theorem x_set (K : gK) (h what v : Int32) (ι : gIm) (ρ : gRm) (Λ : gLm) (hF : gFix ρ Λ) (nh : Nat) (hH : ι 4 2 = nI nh) (hn : nh ≤ 24) (hAl : ∀ i, i < nh → ρ 5 i = some (100 + i)) : gCe K 3 0 0 jX11_set [vR 0, vI h, vI what, vI v] ι ρ Λ (some (vI (rs (cSet h what v (nI nh)) (if what = 0 then hr ι 2 h.toNatClampNeg else if what = 1 then hr ι 3 h.toNatClampNeg else if hr ι 4 h.toNatClampNeg = 0 then 0 else 1)))) (rsM (cSet h what v (nI nh)) 1 ι (xBecome ι (100 + h.toNatClampNeg) what v)) ρ Λ := by
  refine gC_of (by decide) (nle rfl) ?_
  by_cases f_h : 0 ≤ h ∧ h < nI nh
  · have b_h := nn_i f_h (by omega)
    refine x_aload_n 0 DX11_set_0 rfl rfl ?_
    refine x_getr 2 (some 4) DX11_set_1 (Or.inr F11_23) rfl rfl (hF.1 0 2 4 rfl) ?_
    refine x_iload_n 1 DX11_set_4 rfl rfl ?_
    refine x_Ve (ci := 3) (av := [vI h]) (rest := []) (st' := [vR (100 + h.toNatClampNeg)]) 0 0 DX11_set_5 L11_139 rfl rfl rfl rfl rfl ⟨nle rfl, nle rfl, nle rfl⟩ ⟨rfl, nle rfl⟩ ⟨rfl, nle rfl⟩ (x_findH K h ι ρ Λ hF nh hH hn hAl f_h) rfl ?_
    refine x_astore (lv' := [some (vR 0), some (vI h), some (vI what), some (vI v), some (vR (100 + h.toNatClampNeg)), none]) DX11_set_8 ⟨nlt rfl, nlt rfl⟩ rfl ?_
    refine x_aload DX11_set_10 rfl ?_
    refine x_ifnonnull 21 DX11_set_12 (by decide) (fun _ _ => ?_) (fun h => by cases h)
    refine x_iload_n 2 DX11_set_21 rfl rfl ?_
    refine x_if_lt 30 DX11_set_22 (by decide) (fun c_22 => ?_) (fun c_22 => ?_)
    · refine x_aload_n 0 DX11_set_30 rfl rfl ?_
      refine x_bipush (-2) DX11_set_31 (by decide) ?_
      refine x_Ve (ci := 11) (av := [vI (-2)]) (rest := []) (st' := [vI (-2)]) 0 0 DX11_set_33 L11_72 rfl rfl rfl rfl rfl ⟨nle rfl, nle rfl, nle rfl⟩ ⟨rfl, nle rfl⟩ ⟨rfl, nle rfl⟩ (x_refuse K (-2) ι ρ Λ hF ⟨by decide, by decide⟩) rfl ?_
      refine x_nmι (fun ι33 e_ι33 => ?_)
      exact x_ireturn DX11_set_36 rfl ⟨by grind [cSet, rs, hr], by grind [cSet, rsM], rfl, rfl⟩
    · refine x_iload_n 2 DX11_set_25 rfl rfl ?_
      refine x_iconst 2 DX11_set_26 (by decide) ?_
      refine x_icmp_le 37 DX11_set_27 (by decide) (fun c_27 => ?_) (fun c_27 => ?_)
      · refine x_iload_n 2 DX11_set_37 rfl rfl ?_
        refine x_iconst 2 DX11_set_38 (by decide) ?_
        refine x_icmp_ne 51 DX11_set_39 (by decide) (fun c_39 => ?_) (fun c_39 => ?_)
        · refine x_iload_n 3 DX11_set_51 rfl rfl ?_
          refine x_iconst 1 DX11_set_52 (by decide) ?_
          refine x_bipush 9 DX11_set_53 (by decide) ?_
          refine x_Se (av := [vI v, vI 1, vI 9]) (rest := []) (st' := [vI (wr v 1 9)]) 0 0 DX11_set_55 L11_83 rfl rfl ⟨nle rfl, nle rfl, nle rfl⟩ ⟨rfl, nle rfl⟩ ⟨rfl, nle rfl⟩ (x_misfit K v 1 9 ι ρ Λ) rfl ?_
          refine x_istore (lv' := [some (vR 0), some (vI h), some (vI what), some (vI v), some (vR (100 + h.toNatClampNeg)), some (vI (wr v 1 9))]) DX11_set_58 ⟨nlt rfl, nlt rfl⟩ rfl ?_
          refine x_iload DX11_set_60 rfl ?_
          refine x_if_eq 74 DX11_set_62 (by decide) (fun c_62 => ?_) (fun c_62 => ?_)
          · refine x_aload DX11_set_74 rfl ?_
            refine x_iload_n 2 DX11_set_76 rfl rfl ?_
            refine x_iload_n 3 DX11_set_77 rfl rfl ?_
            refine x_Ve (ci := 2) (av := [vI what, vI v]) (rest := []) (st' := [vI (if what = 0 then ι (100 + h.toNatClampNeg) 2 else if what = 1 then ι (100 + h.toNatClampNeg) 3 else if ι (100 + h.toNatClampNeg) 4 = 0 then 0 else 1)]) 0 0 DX11_set_78 L11_143 rfl rfl (shp_house (by omega)) rfl rfl ⟨nle rfl, nle rfl, nle rfl⟩ ⟨rfl, nle rfl⟩ ⟨rfl, nle rfl⟩ (x_become K what v ι ρ Λ h.toNatClampNeg (by omega)) rfl ?_
            refine x_nmι (fun ι78 e_ι78 => ?_)
            exact x_ireturn DX11_set_81 rfl ⟨by grind [cSet, rs, hr], by grind [cSet, rsM], rfl, rfl⟩
          · refine x_aload_n 0 DX11_set_65 rfl rfl ?_
            refine x_iload DX11_set_66 rfl ?_
            refine x_Ve (ci := 11) (av := [vI (wr v 1 9)]) (rest := []) (st' := [vI (wr v 1 9)]) 0 0 DX11_set_68 L11_72 rfl rfl rfl rfl rfl ⟨nle rfl, nle rfl, nle rfl⟩ ⟨rfl, nle rfl⟩ ⟨rfl, nle rfl⟩ (x_refuse K (wr v 1 9) ι ρ Λ hF (wr_in _ _ _ (by assumption))) rfl ?_
            refine x_nmι (fun ι68 e_ι68 => ?_)
            refine x_goto 81 DX11_set_71 (by decide) ?_
            exact x_ireturn DX11_set_81 rfl ⟨by grind [cSet, rs, hr], by grind [cSet, rsM], rfl, rfl⟩
        · refine x_iload_n 3 DX11_set_42 rfl rfl ?_
          refine x_iconst 0 DX11_set_43 (by decide) ?_
          refine x_iconst 1 DX11_set_44 (by decide) ?_
          refine x_Se (av := [vI v, vI 0, vI 1]) (rest := []) (st' := [vI (wr v 0 1)]) 0 0 DX11_set_45 L11_83 rfl rfl ⟨nle rfl, nle rfl, nle rfl⟩ ⟨rfl, nle rfl⟩ ⟨rfl, nle rfl⟩ (x_misfit K v 0 1 ι ρ Λ) rfl ?_
          refine x_goto 58 DX11_set_48 (by decide) ?_
          refine x_istore (lv' := [some (vR 0), some (vI h), some (vI what), some (vI v), some (vR (100 + h.toNatClampNeg)), some (vI (wr v 0 1))]) DX11_set_58 ⟨nlt rfl, nlt rfl⟩ rfl ?_
          refine x_iload DX11_set_60 rfl ?_
          refine x_if_eq 74 DX11_set_62 (by decide) (fun c_62 => ?_) (fun c_62 => ?_)
          · refine x_aload DX11_set_74 rfl ?_
            refine x_iload_n 2 DX11_set_76 rfl rfl ?_
            refine x_iload_n 3 DX11_set_77 rfl rfl ?_
            refine x_Ve (ci := 2) (av := [vI what, vI v]) (rest := []) (st' := [vI (if what = 0 then ι (100 + h.toNatClampNeg) 2 else if what = 1 then ι (100 + h.toNatClampNeg) 3 else if ι (100 + h.toNatClampNeg) 4 = 0 then 0 else 1)]) 0 0 DX11_set_78 L11_143 rfl rfl (shp_house (by omega)) rfl rfl ⟨nle rfl, nle rfl, nle rfl⟩ ⟨rfl, nle rfl⟩ ⟨rfl, nle rfl⟩ (x_become K what v ι ρ Λ h.toNatClampNeg (by omega)) rfl ?_
            refine x_nmι (fun ι78 e_ι78 => ?_)
            exact x_ireturn DX11_set_81 rfl ⟨by grind [cSet, rs, hr], by grind [cSet, rsM], rfl, rfl⟩
          · refine x_aload_n 0 DX11_set_65 rfl rfl ?_
            refine x_iload DX11_set_66 rfl ?_
            refine x_Ve (ci := 11) (av := [vI (wr v 0 1)]) (rest := []) (st' := [vI (wr v 0 1)]) 0 0 DX11_set_68 L11_72 rfl rfl rfl rfl rfl ⟨nle rfl, nle rfl, nle rfl⟩ ⟨rfl, nle rfl⟩ ⟨rfl, nle rfl⟩ (x_refuse K (wr v 0 1) ι ρ Λ hF (wr_in _ _ _ (by assumption))) rfl ?_
            refine x_nmι (fun ι68 e_ι68 => ?_)
            refine x_goto 81 DX11_set_71 (by decide) ?_
            exact x_ireturn DX11_set_81 rfl ⟨by grind [cSet, rs, hr], by grind [cSet, rsM], rfl, rfl⟩
      · refine x_aload_n 0 DX11_set_30 rfl rfl ?_
        refine x_bipush (-2) DX11_set_31 (by decide) ?_
        refine x_Ve (ci := 11) (av := [vI (-2)]) (rest := []) (st' := [vI (-2)]) 0 0 DX11_set_33 L11_72 rfl rfl rfl rfl rfl ⟨nle rfl, nle rfl, nle rfl⟩ ⟨rfl, nle rfl⟩ ⟨rfl, nle rfl⟩ (x_refuse K (-2) ι ρ Λ hF ⟨by decide, by decide⟩) rfl ?_
        refine x_nmι (fun ι33 e_ι33 => ?_)
        exact x_ireturn DX11_set_36 rfl ⟨by grind [cSet, rs, hr], by grind [cSet, rsM], rfl, rfl⟩
  · refine x_aload_n 0 DX11_set_0 rfl rfl ?_
    refine x_getr 2 (some 4) DX11_set_1 (Or.inr F11_23) rfl rfl (hF.1 0 2 4 rfl) ?_
    refine x_iload_n 1 DX11_set_4 rfl rfl ?_
    refine x_Ve (ci := 3) (av := [vI h]) (rest := []) (st' := [vN]) 0 0 DX11_set_5 L11_139 rfl rfl rfl rfl rfl ⟨nle rfl, nle rfl, nle rfl⟩ ⟨rfl, nle rfl⟩ ⟨rfl, nle rfl⟩ (x_findN K h ι ρ Λ hF nh hH hn f_h) rfl ?_
    refine x_astore (lv' := [some (vR 0), some (vI h), some (vI what), some (vI v), some (vN), none]) DX11_set_8 ⟨nlt rfl, nlt rfl⟩ rfl ?_
    refine x_aload DX11_set_10 rfl ?_
    refine x_ifnonnull 21 DX11_set_12 (by decide) (fun _ h => by cases h) (fun _ => ?_)
    refine x_aload_n 0 DX11_set_15 rfl rfl ?_
    refine x_iconst (-1) DX11_set_16 (by decide) ?_
    refine x_Ve (ci := 11) (av := [vI (-1)]) (rest := []) (st' := [vI (-1)]) 0 0 DX11_set_17 L11_72 rfl rfl rfl rfl rfl ⟨nle rfl, nle rfl, nle rfl⟩ ⟨rfl, nle rfl⟩ ⟨rfl, nle rfl⟩ (x_refuse K (-1) ι ρ Λ hF ⟨by decide, by decide⟩) rfl ?_
    refine x_nmι (fun ι17 e_ι17 => ?_)
    exact x_ireturn DX11_set_20 rfl ⟨by grind [cSet, rs, hr], by grind [cSet, rsM], rfl, rfl⟩
theorem x_bring (K : gK) (h f d : Int32) (ι : gIm) (ρ : gRm) (Λ : gLm) (hF : gFix ρ Λ) (nh : Nat) (hH : ι 4 2 = nI nh) (hn : nh ≤ 24) (hAl : ∀ i, i < nh → ρ 5 i = some (100 + i)) : gCe K 3 0 0 jX11_bring [vR 0, vI h, vI f, vI d] ι ρ Λ (some (vI (rs (cBring h f d (nI nh) (hr ι 4 h.toNatClampNeg) (hr ι 7 h.toNatClampNeg)) (f / 10 - hr ι 7 h.toNatClampNeg)))) (rsM (cBring h f d (nI nh) (hr ι 4 h.toNatClampNeg) (hr ι 7 h.toNatClampNeg)) 1 ι (up2 (up2 ι (100 + h.toNatClampNeg) 5 f) (100 + h.toNatClampNeg) 6 d)) ρ Λ := by
  refine gC_of (by decide) (nle rfl) ?_
  by_cases f_h : 0 ≤ h ∧ h < nI nh
  · have b_h := nn_i f_h (by omega)
    refine x_aload_n 0 DX11_bring_0 rfl rfl ?_
    refine x_getr 2 (some 4) DX11_bring_1 (Or.inr F11_23) rfl rfl (hF.1 0 2 4 rfl) ?_
    refine x_iload_n 1 DX11_bring_4 rfl rfl ?_
    refine x_Ve (ci := 3) (av := [vI h]) (rest := []) (st' := [vR (100 + h.toNatClampNeg)]) 0 0 DX11_bring_5 L11_139 rfl rfl rfl rfl rfl ⟨nle rfl, nle rfl, nle rfl⟩ ⟨rfl, nle rfl⟩ ⟨rfl, nle rfl⟩ (x_findH K h ι ρ Λ hF nh hH hn hAl f_h) rfl ?_
    refine x_astore (lv' := [some (vR 0), some (vI h), some (vI f), some (vI d), some (vR (100 + h.toNatClampNeg)), none]) DX11_bring_8 ⟨nlt rfl, nlt rfl⟩ rfl ?_
    refine x_aload DX11_bring_10 rfl ?_
    refine x_ifnonnull 21 DX11_bring_12 (by decide) (fun _ _ => ?_) (fun h => by cases h)
    refine x_aload DX11_bring_21 rfl ?_
    refine x_geti (v := (ι (100 + h.toNatClampNeg) 4)) 4 DX11_bring_23 (Or.inl F11_146) (shp_house (by omega)) rfl rfl ?_
    refine x_if_eq 37 DX11_bring_26 (by decide) (fun c_26 => ?_) (fun c_26 => ?_)
    · refine x_aload_n 0 DX11_bring_37 rfl rfl ?_
      refine x_bipush (-3) DX11_bring_38 (by decide) ?_
      refine x_Ve (ci := 11) (av := [vI (-3)]) (rest := []) (st' := [vI (-3)]) 0 0 DX11_bring_40 L11_72 rfl rfl rfl rfl rfl ⟨nle rfl, nle rfl, nle rfl⟩ ⟨rfl, nle rfl⟩ ⟨rfl, nle rfl⟩ (x_refuse K (-3) ι ρ Λ hF ⟨by decide, by decide⟩) rfl ?_
      refine x_nmι (fun ι40 e_ι40 => ?_)
      exact x_ireturn DX11_bring_43 rfl ⟨by grind [cBring, rs, hr, wr, fi], by grind [cBring, rsM, hr, wr, fi], rfl, rfl⟩
    · refine x_aload DX11_bring_29 rfl ?_
      refine x_geti (v := (ι (100 + h.toNatClampNeg) 7)) 7 DX11_bring_31 (Or.inl F11_150) (shp_house (by omega)) rfl rfl ?_
      refine x_if_le 44 DX11_bring_34 (by decide) (fun c_34 => ?_) (fun c_34 => ?_)
      · refine x_iload_n 2 DX11_bring_44 rfl rfl ?_
        refine x_iconst 0 DX11_bring_45 (by decide) ?_
        refine x_sipush 2000 DX11_bring_46 (by decide) ?_
        refine x_Se (av := [vI f, vI 0, vI 2000]) (rest := []) (st' := [vI (wr f 0 2000)]) 0 0 DX11_bring_49 L11_83 rfl rfl ⟨nle rfl, nle rfl, nle rfl⟩ ⟨rfl, nle rfl⟩ ⟨rfl, nle rfl⟩ (x_misfit K f 0 2000 ι ρ Λ) rfl ?_
        refine x_iload_n 3 DX11_bring_52 rfl rfl ?_
        refine x_iconst 0 DX11_bring_53 (by decide) ?_
        refine x_bipush 20 DX11_bring_54 (by decide) ?_
        refine x_Se (av := [vI d, vI 0, vI 20]) (rest := [vI (wr f 0 2000)]) (st' := [vI (wr d 0 20), vI (wr f 0 2000)]) 0 0 DX11_bring_56 L11_83 rfl rfl ⟨nle rfl, nle rfl, nle rfl⟩ ⟨rfl, nle rfl⟩ ⟨rfl, nle rfl⟩ (x_misfit K d 0 20 ι ρ Λ) rfl ?_
        refine x_Se (av := [vI (wr f 0 2000), vI (wr d 0 20)]) (rest := []) (st' := [vI (fi (wr f 0 2000) (wr d 0 20))]) 0 0 DX11_bring_59 L11_153 rfl rfl ⟨nle rfl, nle rfl, nle rfl⟩ ⟨rfl, nle rfl⟩ ⟨rfl, nle rfl⟩ (x_first K (wr f 0 2000) (wr d 0 20) ι ρ Λ) rfl ?_
        refine x_istore (lv' := [some (vR 0), some (vI h), some (vI f), some (vI d), some (vR (100 + h.toNatClampNeg)), some (vI (fi (wr f 0 2000) (wr d 0 20)))]) DX11_bring_62 ⟨nlt rfl, nlt rfl⟩ rfl ?_
        refine x_iload DX11_bring_64 rfl ?_
        refine x_if_eq 76 DX11_bring_66 (by decide) (fun c_66 => ?_) (fun c_66 => ?_)
        · refine x_aload DX11_bring_76 rfl ?_
          refine x_iload_n 2 DX11_bring_78 rfl rfl ?_
          refine x_puti 5 DX11_bring_79 F11_156 (shp_house (by omega)) (Or.inl rfl) rfl (fun ι79 e_ι79 => ?_)
          refine x_aload DX11_bring_82 rfl ?_
          refine x_iload_n 3 DX11_bring_84 rfl rfl ?_
          refine x_puti 6 DX11_bring_85 F11_159 (shp_house (by omega)) (Or.inl rfl) rfl (fun ι85 e_ι85 => ?_)
          refine x_aload DX11_bring_88 rfl ?_
          have g := x_cordsLeft K ι85 ρ Λ h.toNatClampNeg (by omega)
          rw [show ι85 (100 + h.toNatClampNeg) 5 = f from ((rd2 e_ι85 (by decide)).trans (rdv e_ι79))] at g
          rw [show ι85 (100 + h.toNatClampNeg) 7 = (ι (100 + h.toNatClampNeg) 7) from ((rd2 e_ι85 (by decide)).trans (rd2 e_ι79 (by decide)))] at g
          refine x_Ve (ci := 2) (av := []) (rest := []) (st' := [vI (f / 10 - (ι (100 + h.toNatClampNeg) 7))]) 0 0 DX11_bring_90 L11_162 rfl rfl (shp_house (by omega)) rfl rfl ⟨nle rfl, nle rfl, nle rfl⟩ ⟨rfl, nle rfl⟩ ⟨rfl, nle rfl⟩ (g) rfl ?_
          exact x_ireturn DX11_bring_93 rfl ⟨by rw [rs, if_pos (by grind [cBring, hr, wr, fi])]; rfl, by rw [rsM, if_pos (by grind [cBring, hr, wr, fi])]; subst_vars; rfl, rfl, rfl⟩
        · refine x_aload_n 0 DX11_bring_69 rfl rfl ?_
          refine x_iload DX11_bring_70 rfl ?_
          refine x_Ve (ci := 11) (av := [vI (fi (wr f 0 2000) (wr d 0 20))]) (rest := []) (st' := [vI (fi (wr f 0 2000) (wr d 0 20))]) 0 0 DX11_bring_72 L11_72 rfl rfl rfl rfl rfl ⟨nle rfl, nle rfl, nle rfl⟩ ⟨rfl, nle rfl⟩ ⟨rfl, nle rfl⟩ (x_refuse K (fi (wr f 0 2000) (wr d 0 20)) ι ρ Λ hF (fi_in (by assumption))) rfl ?_
          refine x_nmι (fun ι72 e_ι72 => ?_)
          exact x_ireturn DX11_bring_75 rfl ⟨by grind [cBring, rs, hr, wr, fi], by grind [cBring, rsM, hr, wr, fi], rfl, rfl⟩
      · refine x_aload_n 0 DX11_bring_37 rfl rfl ?_
        refine x_bipush (-3) DX11_bring_38 (by decide) ?_
        refine x_Ve (ci := 11) (av := [vI (-3)]) (rest := []) (st' := [vI (-3)]) 0 0 DX11_bring_40 L11_72 rfl rfl rfl rfl rfl ⟨nle rfl, nle rfl, nle rfl⟩ ⟨rfl, nle rfl⟩ ⟨rfl, nle rfl⟩ (x_refuse K (-3) ι ρ Λ hF ⟨by decide, by decide⟩) rfl ?_
        refine x_nmι (fun ι40 e_ι40 => ?_)
        exact x_ireturn DX11_bring_43 rfl ⟨by grind [cBring, rs, hr, wr, fi], by grind [cBring, rsM, hr, wr, fi], rfl, rfl⟩
  · refine x_aload_n 0 DX11_bring_0 rfl rfl ?_
    refine x_getr 2 (some 4) DX11_bring_1 (Or.inr F11_23) rfl rfl (hF.1 0 2 4 rfl) ?_
    refine x_iload_n 1 DX11_bring_4 rfl rfl ?_
    refine x_Ve (ci := 3) (av := [vI h]) (rest := []) (st' := [vN]) 0 0 DX11_bring_5 L11_139 rfl rfl rfl rfl rfl ⟨nle rfl, nle rfl, nle rfl⟩ ⟨rfl, nle rfl⟩ ⟨rfl, nle rfl⟩ (x_findN K h ι ρ Λ hF nh hH hn f_h) rfl ?_
    refine x_astore (lv' := [some (vR 0), some (vI h), some (vI f), some (vI d), some (vN), none]) DX11_bring_8 ⟨nlt rfl, nlt rfl⟩ rfl ?_
    refine x_aload DX11_bring_10 rfl ?_
    refine x_ifnonnull 21 DX11_bring_12 (by decide) (fun _ h => by cases h) (fun _ => ?_)
    refine x_aload_n 0 DX11_bring_15 rfl rfl ?_
    refine x_iconst (-1) DX11_bring_16 (by decide) ?_
    refine x_Ve (ci := 11) (av := [vI (-1)]) (rest := []) (st' := [vI (-1)]) 0 0 DX11_bring_17 L11_72 rfl rfl rfl rfl rfl ⟨nle rfl, nle rfl, nle rfl⟩ ⟨rfl, nle rfl⟩ ⟨rfl, nle rfl⟩ (x_refuse K (-1) ι ρ Λ hF ⟨by decide, by decide⟩) rfl ?_
    refine x_nmι (fun ι17 e_ι17 => ?_)
    exact x_ireturn DX11_bring_20 rfl ⟨by grind [cBring, rs, hr, wr, fi], by grind [cBring, rsM, hr, wr, fi], rfl, rfl⟩
theorem x_brought (K : gK) (v what : Int32) (ι : gIm) (ρ : gRm) (Λ : gLm) (hF : gFix ρ Λ) (nh : Nat) (hH : ι 4 2 = nI nh) (hn : nh ≤ 24) (hAl : ∀ i, i < nh → ρ 5 i = some (100 + i)) : gCe K 4 0 0 jX11_brought [vR 0, vI v, vI what] ι ρ Λ (some (vI (rs (cBrought v what) (xBrought (hr ι 1) (hr ι 5) (hr ι 6) nh v what)))) (rsM (cBrought v what) 1 ι ι) ρ Λ := by
  refine gC_of (by decide) (nle rfl) ?_
  refine x_iload_n 1 DX11_brought_0 rfl rfl ?_
  refine x_iconst (-1) DX11_brought_1 (by decide) ?_
  refine x_icmp_lt 10 DX11_brought_2 (by decide) (fun c_2 => ?_) (fun c_2 => ?_)
  · refine x_aload_n 0 DX11_brought_10 rfl rfl ?_
    refine x_iconst (-1) DX11_brought_11 (by decide) ?_
    refine x_Ve (ci := 11) (av := [vI (-1)]) (rest := []) (st' := [vI (-1)]) 0 0 DX11_brought_12 L11_72 rfl rfl rfl rfl rfl ⟨nle rfl, nle rfl, nle rfl⟩ ⟨rfl, nle rfl⟩ ⟨rfl, nle rfl⟩ (x_refuse K (-1) ι ρ Λ hF ⟨by decide, by decide⟩) rfl ?_
    refine x_nmι (fun ι12 e_ι12 => ?_)
    exact x_ireturn DX11_brought_15 rfl ⟨by grind [cBrought, rs], by grind [cBrought, rsM], rfl, rfl⟩
  · refine x_iload_n 1 DX11_brought_5 rfl rfl ?_
    refine x_iconst 4 DX11_brought_6 (by decide) ?_
    refine x_icmp_lt 16 DX11_brought_7 (by decide) (fun c_7 => ?_) (fun c_7 => ?_)
    · refine x_iload_n 2 DX11_brought_16 rfl rfl ?_
      refine x_if_lt 25 DX11_brought_17 (by decide) (fun c_17 => ?_) (fun c_17 => ?_)
      · refine x_aload_n 0 DX11_brought_25 rfl rfl ?_
        refine x_bipush (-2) DX11_brought_26 (by decide) ?_
        refine x_Ve (ci := 11) (av := [vI (-2)]) (rest := []) (st' := [vI (-2)]) 0 0 DX11_brought_28 L11_72 rfl rfl rfl rfl rfl ⟨nle rfl, nle rfl, nle rfl⟩ ⟨rfl, nle rfl⟩ ⟨rfl, nle rfl⟩ (x_refuse K (-2) ι ρ Λ hF ⟨by decide, by decide⟩) rfl ?_
        refine x_nmι (fun ι28 e_ι28 => ?_)
        refine x_goto 43 DX11_brought_31 (by decide) ?_
        exact x_ireturn DX11_brought_43 rfl ⟨by grind [cBrought, rs], by grind [cBrought, rsM], rfl, rfl⟩
      · refine x_iload_n 2 DX11_brought_20 rfl rfl ?_
        refine x_iconst 2 DX11_brought_21 (by decide) ?_
        refine x_icmp_le 34 DX11_brought_22 (by decide) (fun c_22 => ?_) (fun c_22 => ?_)
        · refine x_aload_n 0 DX11_brought_34 rfl rfl ?_
          refine x_getr 2 (some 4) DX11_brought_35 (Or.inr F11_23) rfl rfl (hF.1 0 2 4 rfl) ?_
          refine x_iload_n 1 DX11_brought_38 rfl rfl ?_
          refine x_iload_n 2 DX11_brought_39 rfl rfl ?_
          refine x_Ve (ci := 3) (av := [vI v, vI what]) (rest := []) (st' := [vI (xBrought (hr ι 1) (hr ι 5) (hr ι 6) nh v what)]) 0 0 DX11_brought_40 L11_166 rfl rfl rfl rfl rfl ⟨nle rfl, nle rfl, nle rfl⟩ ⟨rfl, nle rfl⟩ ⟨rfl, nle rfl⟩ (x_fathomsOf K v what ι ρ Λ hF nh hH hn hAl) rfl ?_
          exact x_ireturn DX11_brought_43 rfl ⟨by grind [cBrought, rs], by grind [cBrought, rsM], rfl, rfl⟩
        · refine x_aload_n 0 DX11_brought_25 rfl rfl ?_
          refine x_bipush (-2) DX11_brought_26 (by decide) ?_
          refine x_Ve (ci := 11) (av := [vI (-2)]) (rest := []) (st' := [vI (-2)]) 0 0 DX11_brought_28 L11_72 rfl rfl rfl rfl rfl ⟨nle rfl, nle rfl, nle rfl⟩ ⟨rfl, nle rfl⟩ ⟨rfl, nle rfl⟩ (x_refuse K (-2) ι ρ Λ hF ⟨by decide, by decide⟩) rfl ?_
          refine x_nmι (fun ι28 e_ι28 => ?_)
          refine x_goto 43 DX11_brought_31 (by decide) ?_
          exact x_ireturn DX11_brought_43 rfl ⟨by grind [cBrought, rs], by grind [cBrought, rsM], rfl, rfl⟩
    · refine x_aload_n 0 DX11_brought_10 rfl rfl ?_
      refine x_iconst (-1) DX11_brought_11 (by decide) ?_
      refine x_Ve (ci := 11) (av := [vI (-1)]) (rest := []) (st' := [vI (-1)]) 0 0 DX11_brought_12 L11_72 rfl rfl rfl rfl rfl ⟨nle rfl, nle rfl, nle rfl⟩ ⟨rfl, nle rfl⟩ ⟨rfl, nle rfl⟩ (x_refuse K (-1) ι ρ Λ hF ⟨by decide, by decide⟩) rfl ?_
      refine x_nmι (fun ι12 e_ι12 => ?_)
      exact x_ireturn DX11_brought_15 rfl ⟨by grind [cBrought, rs], by grind [cBrought, rsM], rfl, rfl⟩
theorem x_ask (K : gK) (f : Int32) (ι : gIm) (ρ : gRm) (Λ : gLm) (hF : gFix ρ Λ) : gCe K 3 0 0 jX11_ask [vR 0, vI f] ι ρ Λ (some (vI (rs (wr f 0 10000) (ι 4 3)))) (rsM (wr f 0 10000) 1 ι (up2 ι 4 3 f)) ρ Λ := by
  refine gC_of (by decide) (nle rfl) ?_
  refine x_iload_n 1 DX11_ask_0 rfl rfl ?_
  refine x_iconst 0 DX11_ask_1 (by decide) ?_
  refine x_sipush 10000 DX11_ask_2 (by decide) ?_
  refine x_Se (av := [vI f, vI 0, vI 10000]) (rest := []) (st' := [vI (wr f 0 10000)]) 0 0 DX11_ask_5 L11_83 rfl rfl ⟨nle rfl, nle rfl, nle rfl⟩ ⟨rfl, nle rfl⟩ ⟨rfl, nle rfl⟩ (x_misfit K f 0 10000 ι ρ Λ) rfl ?_
  refine x_istore_n 2 (lv' := [some (vR 0), some (vI f), some (vI (wr f 0 10000)), none]) DX11_ask_8 rfl ⟨nlt rfl, nlt rfl⟩ rfl ?_
  refine x_iload_n 2 DX11_ask_9 rfl rfl ?_
  refine x_if_eq 19 DX11_ask_10 (by decide) (fun c_10 => ?_) (fun c_10 => ?_)
  · refine x_aload_n 0 DX11_ask_19 rfl rfl ?_
    refine x_getr 2 (some 4) DX11_ask_20 (Or.inr F11_23) rfl rfl (hF.1 0 2 4 rfl) ?_
    refine x_geti (v := (ι 4 3)) 3 DX11_ask_23 (Or.inl F11_169) rfl rfl rfl ?_
    refine x_istore_n 3 (lv' := [some (vR 0), some (vI f), some (vI (wr f 0 10000)), some (vI (ι 4 3))]) DX11_ask_26 rfl ⟨nlt rfl, nlt rfl⟩ rfl ?_
    refine x_aload_n 0 DX11_ask_27 rfl rfl ?_
    refine x_getr 2 (some 4) DX11_ask_28 (Or.inr F11_23) rfl rfl (hF.1 0 2 4 rfl) ?_
    refine x_iload_n 1 DX11_ask_31 rfl rfl ?_
    refine x_puti 3 DX11_ask_32 F11_169 rfl (Or.inl rfl) rfl (fun ι32 e_ι32 => ?_)
    refine x_iload_n 3 DX11_ask_35 rfl rfl ?_
    exact x_ireturn DX11_ask_36 rfl ⟨by grind [rs], by grind [rsM], rfl, rfl⟩
  · refine x_aload_n 0 DX11_ask_13 rfl rfl ?_
    refine x_iload_n 2 DX11_ask_14 rfl rfl ?_
    refine x_Ve (ci := 11) (av := [vI (wr f 0 10000)]) (rest := []) (st' := [vI (wr f 0 10000)]) 0 0 DX11_ask_15 L11_72 rfl rfl rfl rfl rfl ⟨nle rfl, nle rfl, nle rfl⟩ ⟨rfl, nle rfl⟩ ⟨rfl, nle rfl⟩ (x_refuse K (wr f 0 10000) ι ρ Λ hF (wr_in _ _ _ (by assumption))) rfl ?_
    refine x_nmι (fun ι15 e_ι15 => ?_)
    exact x_ireturn DX11_ask_18 rfl ⟨by grind [rs], by grind [rsM], rfl, rfl⟩
theorem x_share (K : gK) (h : Int32) (ι : gIm) (ρ : gRm) (Λ : gLm) (hF : gFix ρ Λ) (nh : Nat) (hH : ι 4 2 = nI nh) (hn : nh ≤ 24) (hAl : ∀ i, i < nh → ρ 5 i = some (100 + i)) (hNm : ∀ i, i < nh → hr ι 0 i = nI i) (hall : ∀ h, h < nh → hr ι 4 h ≠ 0 → 0 < sHands (hr ι 4) (hr ι 2) nh) : gCe K 3 0 0 jX11_share [vR 0, vI h] ι ρ Λ (some (vI (rs (cIs h (nI nh)) (sShare (hr ι 4) (hr ι 2) (hr ι 8) nh (ι 4 3) h.toNatClampNeg)))) (rsM (cIs h (nI nh)) 1 ι ι) ρ Λ := by
  refine gC_of (by decide) (nle rfl) ?_
  by_cases f_h : 0 ≤ h ∧ h < nI nh
  · have b_h := nn_i f_h (by omega)
    refine x_aload_n 0 DX11_share_0 rfl rfl ?_
    refine x_getr 2 (some 4) DX11_share_1 (Or.inr F11_23) rfl rfl (hF.1 0 2 4 rfl) ?_
    refine x_iload_n 1 DX11_share_4 rfl rfl ?_
    refine x_Ve (ci := 3) (av := [vI h]) (rest := []) (st' := [vR (100 + h.toNatClampNeg)]) 0 0 DX11_share_5 L11_139 rfl rfl rfl rfl rfl ⟨nle rfl, nle rfl, nle rfl⟩ ⟨rfl, nle rfl⟩ ⟨rfl, nle rfl⟩ (x_findH K h ι ρ Λ hF nh hH hn hAl f_h) rfl ?_
    refine x_astore_n 2 (lv' := [some (vR 0), some (vI h), some (vR (100 + h.toNatClampNeg))]) DX11_share_8 rfl ⟨nlt rfl, nlt rfl⟩ rfl ?_
    refine x_aload_n 2 DX11_share_9 rfl rfl ?_
    refine x_ifnonnull 21 DX11_share_10 (by decide) (fun _ _ => ?_) (fun h => by cases h)
    refine x_aload_n 0 DX11_share_21 rfl rfl ?_
    refine x_getr 2 (some 4) DX11_share_22 (Or.inr F11_23) rfl rfl (hF.1 0 2 4 rfl) ?_
    refine x_aload_n 2 DX11_share_25 rfl rfl ?_
    refine x_Ve (ci := 3) (av := [vR (100 + h.toNatClampNeg)]) (rest := []) (st' := [vI (sShare (hr ι 4) (hr ι 2) (hr ι 8) nh (ι 4 3) h.toNatClampNeg)]) 0 0 DX11_share_26 L11_172 rfl rfl rfl rfl rfl ⟨nle rfl, nle rfl, nle rfl⟩ ⟨rfl, nle rfl⟩ ⟨rfl, nle rfl⟩ (x_shareOf K ι ρ Λ hF nh hH hn hAl hNm h.toNatClampNeg (by omega) (hall _ (by omega))) rfl ?_
    exact x_ireturn DX11_share_29 rfl ⟨by grind [cIs, rs], by grind [cIs, rsM], rfl, rfl⟩
  · refine x_aload_n 0 DX11_share_0 rfl rfl ?_
    refine x_getr 2 (some 4) DX11_share_1 (Or.inr F11_23) rfl rfl (hF.1 0 2 4 rfl) ?_
    refine x_iload_n 1 DX11_share_4 rfl rfl ?_
    refine x_Ve (ci := 3) (av := [vI h]) (rest := []) (st' := [vN]) 0 0 DX11_share_5 L11_139 rfl rfl rfl rfl rfl ⟨nle rfl, nle rfl, nle rfl⟩ ⟨rfl, nle rfl⟩ ⟨rfl, nle rfl⟩ (x_findN K h ι ρ Λ hF nh hH hn f_h) rfl ?_
    refine x_astore_n 2 (lv' := [some (vR 0), some (vI h), some (vN)]) DX11_share_8 rfl ⟨nlt rfl, nlt rfl⟩ rfl ?_
    refine x_aload_n 2 DX11_share_9 rfl rfl ?_
    refine x_ifnonnull 21 DX11_share_10 (by decide) (fun _ h => by cases h) (fun _ => ?_)
    refine x_aload_n 0 DX11_share_13 rfl rfl ?_
    refine x_iconst (-1) DX11_share_14 (by decide) ?_
    refine x_Ve (ci := 11) (av := [vI (-1)]) (rest := []) (st' := [vI (-1)]) 0 0 DX11_share_15 L11_72 rfl rfl rfl rfl rfl ⟨nle rfl, nle rfl, nle rfl⟩ ⟨rfl, nle rfl⟩ ⟨rfl, nle rfl⟩ (x_refuse K (-1) ι ρ Λ hF ⟨by decide, by decide⟩) rfl ?_
    refine x_nmι (fun ι15 e_ι15 => ?_)
    refine x_goto 29 DX11_share_18 (by decide) ?_
    exact x_ireturn DX11_share_29 rfl ⟨by grind [cIs, rs], by grind [cIs, rsM], rfl, rfl⟩
theorem x_owed (K : gK) (h : Int32) (ι : gIm) (ρ : gRm) (Λ : gLm) (hF : gFix ρ Λ) (nh : Nat) (hH : ι 4 2 = nI nh) (hn : nh ≤ 24) (hAl : ∀ i, i < nh → ρ 5 i = some (100 + i)) : gCe K 3 0 0 jX11_owed [vR 0, vI h] ι ρ Λ (some (vI (rsF (cIs h (nI nh)) (hr ι 8 h.toNatClampNeg)))) (rsM (cIs h (nI nh)) 1 ι ι) ρ Λ := by
  refine gC_of (by decide) (nle rfl) ?_
  by_cases f_h : 0 ≤ h ∧ h < nI nh
  · have b_h := nn_i f_h (by omega)
    refine x_aload_n 0 DX11_owed_0 rfl rfl ?_
    refine x_getr 2 (some 4) DX11_owed_1 (Or.inr F11_23) rfl rfl (hF.1 0 2 4 rfl) ?_
    refine x_iload_n 1 DX11_owed_4 rfl rfl ?_
    refine x_Ve (ci := 3) (av := [vI h]) (rest := []) (st' := [vR (100 + h.toNatClampNeg)]) 0 0 DX11_owed_5 L11_139 rfl rfl rfl rfl rfl ⟨nle rfl, nle rfl, nle rfl⟩ ⟨rfl, nle rfl⟩ ⟨rfl, nle rfl⟩ (x_findH K h ι ρ Λ hF nh hH hn hAl f_h) rfl ?_
    refine x_astore_n 2 (lv' := [some (vR 0), some (vI h), some (vR (100 + h.toNatClampNeg))]) DX11_owed_8 rfl ⟨nlt rfl, nlt rfl⟩ rfl ?_
    refine x_aload_n 2 DX11_owed_9 rfl rfl ?_
    refine x_ifnonnull 21 DX11_owed_10 (by decide) (fun _ _ => ?_) (fun h => by cases h)
    refine x_aload_n 2 DX11_owed_21 rfl rfl ?_
    refine x_geti (v := (ι (100 + h.toNatClampNeg) 8)) 8 DX11_owed_22 (Or.inl F11_176) (shp_house (by omega)) rfl rfl ?_
    exact x_ireturn DX11_owed_25 rfl ⟨by grind [cIs, rsF, hr], by grind [cIs, rsM], rfl, rfl⟩
  · refine x_aload_n 0 DX11_owed_0 rfl rfl ?_
    refine x_getr 2 (some 4) DX11_owed_1 (Or.inr F11_23) rfl rfl (hF.1 0 2 4 rfl) ?_
    refine x_iload_n 1 DX11_owed_4 rfl rfl ?_
    refine x_Ve (ci := 3) (av := [vI h]) (rest := []) (st' := [vN]) 0 0 DX11_owed_5 L11_139 rfl rfl rfl rfl rfl ⟨nle rfl, nle rfl, nle rfl⟩ ⟨rfl, nle rfl⟩ ⟨rfl, nle rfl⟩ (x_findN K h ι ρ Λ hF nh hH hn f_h) rfl ?_
    refine x_astore_n 2 (lv' := [some (vR 0), some (vI h), some (vN)]) DX11_owed_8 rfl ⟨nlt rfl, nlt rfl⟩ rfl ?_
    refine x_aload_n 2 DX11_owed_9 rfl rfl ?_
    refine x_ifnonnull 21 DX11_owed_10 (by decide) (fun _ h => by cases h) (fun _ => ?_)
    refine x_aload_n 0 DX11_owed_13 rfl rfl ?_
    refine x_iconst (-1) DX11_owed_14 (by decide) ?_
    refine x_Ve (ci := 11) (av := [vI (-1)]) (rest := []) (st' := [vI (1000000000 - (-1))]) 0 0 DX11_owed_15 L11_80 rfl rfl rfl rfl rfl ⟨nle rfl, nle rfl, nle rfl⟩ ⟨rfl, nle rfl⟩ ⟨rfl, nle rfl⟩ (x_refuseF K (-1) ι ρ Λ hF ⟨by decide, by decide⟩) rfl ?_
    refine x_nmι (fun ι15 e_ι15 => ?_)
    refine x_goto 25 DX11_owed_18 (by decide) ?_
    exact x_ireturn DX11_owed_25 rfl ⟨by grind [cIs, rsF, hr], by grind [cIs, rsM], rfl, rfl⟩
