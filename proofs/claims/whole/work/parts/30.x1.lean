/-! the class, I: season, rain -/
theorem x_refuse (K : gK) (n : Int32) (ι : gIm) (ρ : gRm) (Λ : gLm) (hF : gFix ρ Λ) (hn : gIn (-n) 7) : gCe K 1 0 0 jX11_refuse [vR 0, vI n] ι ρ Λ (some (vI n)) (rf 1 ι n) ρ Λ := by
  refine gC_of (by decide) (nle rfl) ?_
  refine x_iload_n 1 DX11_refuse_0 rfl rfl ?_
  refine x_ineg DX11_refuse_1 ?_
  refine x_if_lt 26 DX11_refuse_2 (by decide) (fun c_2 => False.elim (hn.1 c_2)) (fun c_2 => ?_)
  refine x_iload_n 1 DX11_refuse_5 rfl rfl ?_
  refine x_ineg DX11_refuse_6 ?_
  refine x_aload_n 0 DX11_refuse_7 rfl rfl ?_
  refine x_getr 0 (some 1) DX11_refuse_8 (Or.inr F11_7) rfl rfl (hF.1 0 0 1 rfl) ?_
  refine x_alen (t := 0) 7 DX11_refuse_11 rfl (by decide) (by rw [hF.2 1 7 rfl]; rfl) ?_
  refine x_icmp_ge 26 DX11_refuse_12 (by decide) (fun c_12 => False.elim (by have h7 : -n < 7 := (show -n < nI 7 from (by rw [hn.nI]; exact nI_lt hn.2 (by omega))); grind)) (fun c_12 => ?_)
  refine x_aload_n 0 DX11_refuse_15 rfl rfl ?_
  refine x_getr 0 (some 1) DX11_refuse_16 (Or.inr F11_7) rfl rfl (hF.1 0 0 1 rfl) ?_
  refine x_iload_n 1 DX11_refuse_19 rfl rfl ?_
  refine x_ineg DX11_refuse_20 ?_
  refine x_dup2 DX11_refuse_21 ?_
  refine x_iald (v := (ι 1 ((-n).toNatClampNeg))) ((-n).toNatClampNeg) rfl DX11_refuse_22 rfl (gIn.fx hF (c := 1) (n := 7) rfl hn) rfl ?_
  refine x_iconst 1 DX11_refuse_23 (by decide) ?_
  refine x_iadd DX11_refuse_24 ?_
  refine x_iast ((-n).toNatClampNeg) rfl DX11_refuse_25 rfl (gIn.fx hF (c := 1) (n := 7) rfl hn) (fun ι25 e_ι25 => ?_)
  refine x_iload_n 1 DX11_refuse_26 rfl rfl ?_
  exact x_ireturn DX11_refuse_27 rfl ⟨rfl, by rw [rf]; assumption, rfl, rfl⟩
theorem x_refuseF (K : gK) (n : Int32) (ι : gIm) (ρ : gRm) (Λ : gLm) (hF : gFix ρ Λ) (hn : gIn (-n) 7) : gCe K 2 0 0 jX11_refuseAsTold [vR 0, vI n] ι ρ Λ (some (vI (1000000000 - n))) (rf 1 ι n) ρ Λ := by
  refine gC_of (by decide) (nle rfl) ?_
  refine x_ldc DX11_refuseAsTold_0 gw2_34 ?_
  refine x_aload_n 0 DX11_refuseAsTold_2 rfl rfl ?_
  refine x_iload_n 1 DX11_refuseAsTold_3 rfl rfl ?_
  refine x_Ve (ci := 11) (av := [vI n]) (rest := [vI 1000000000]) (st' := [vI n, vI 1000000000]) 0 0 DX11_refuseAsTold_4 L11_72 rfl rfl rfl rfl rfl ⟨nle rfl, nle rfl, nle rfl⟩ ⟨rfl, nle rfl⟩ ⟨rfl, nle rfl⟩ (x_refuse K n ι ρ Λ hF hn) rfl ?_
  refine x_nmι (fun ι4 e_ι4 => ?_)
  refine x_isub DX11_refuseAsTold_7 ?_
  exact x_ireturn DX11_refuseAsTold_8 rfl ⟨rfl, by assumption, rfl, rfl⟩
theorem x_misfit (K : gK) (v a b : Int32) (ι : gIm) (ρ : gRm) (Λ : gLm)  : gCe K 1 0 0 jX11_misfit [vI v, vI a, vI b] ι ρ Λ (some (vI (wr v a b))) ι ρ Λ := by
  refine gC_of (by decide) (nle rfl) ?_
  refine x_iload_n 0 DX11_misfit_0 rfl rfl ?_
  refine x_iload_n 1 DX11_misfit_1 rfl rfl ?_
  refine x_icmp_ge 10 DX11_misfit_2 (by decide) (fun c_2 => ?_) (fun c_2 => ?_)
  · refine x_iload_n 0 DX11_misfit_10 rfl rfl ?_
    refine x_iload_n 2 DX11_misfit_11 rfl rfl ?_
    refine x_icmp_le 20 DX11_misfit_12 (by decide) (fun c_12 => ?_) (fun c_12 => ?_)
    · refine x_iconst 0 DX11_misfit_20 (by decide) ?_
      exact x_ireturn DX11_misfit_21 rfl ⟨by grind [wr], rfl, rfl, rfl⟩
    · refine x_bipush (-6) DX11_misfit_15 (by decide) ?_
      refine x_goto 21 DX11_misfit_17 (by decide) ?_
      exact x_ireturn DX11_misfit_21 rfl ⟨by grind [wr], rfl, rfl, rfl⟩
  · refine x_bipush (-4) DX11_misfit_5 (by decide) ?_
    refine x_goto 21 DX11_misfit_7 (by decide) ?_
    exact x_ireturn DX11_misfit_21 rfl ⟨by grind [wr], rfl, rfl, rfl⟩
theorem x_first (K : gK) (a b : Int32) (ι : gIm) (ρ : gRm) (Λ : gLm)  : gCe K 1 0 0 jX11_first [vI a, vI b] ι ρ Λ (some (vI (fi a b))) ι ρ Λ := by
  refine gC_of (by decide) (nle rfl) ?_
  refine x_iload_n 0 DX11_first_0 rfl rfl ?_
  refine x_bipush (-4) DX11_first_1 (by decide) ?_
  refine x_icmp_eq 12 DX11_first_3 (by decide) (fun c_3 => ?_) (fun c_3 => ?_)
  · refine x_bipush (-4) DX11_first_12 (by decide) ?_
    refine x_goto 35 DX11_first_14 (by decide) ?_
    exact x_ireturn DX11_first_35 rfl ⟨by grind [fi], rfl, rfl, rfl⟩
  · refine x_iload_n 1 DX11_first_6 rfl rfl ?_
    refine x_bipush (-4) DX11_first_7 (by decide) ?_
    refine x_icmp_ne 17 DX11_first_9 (by decide) (fun c_9 => ?_) (fun c_9 => ?_)
    · refine x_iload_n 0 DX11_first_17 rfl rfl ?_
      refine x_bipush (-6) DX11_first_18 (by decide) ?_
      refine x_icmp_eq 29 DX11_first_20 (by decide) (fun c_20 => ?_) (fun c_20 => ?_)
      · refine x_bipush (-6) DX11_first_29 (by decide) ?_
        refine x_goto 35 DX11_first_31 (by decide) ?_
        exact x_ireturn DX11_first_35 rfl ⟨by grind [fi], rfl, rfl, rfl⟩
      · refine x_iload_n 1 DX11_first_23 rfl rfl ?_
        refine x_bipush (-6) DX11_first_24 (by decide) ?_
        refine x_icmp_ne 34 DX11_first_26 (by decide) (fun c_26 => ?_) (fun c_26 => ?_)
        · refine x_iconst 0 DX11_first_34 (by decide) ?_
          exact x_ireturn DX11_first_35 rfl ⟨by grind [fi], rfl, rfl, rfl⟩
        · refine x_bipush (-6) DX11_first_29 (by decide) ?_
          refine x_goto 35 DX11_first_31 (by decide) ?_
          exact x_ireturn DX11_first_35 rfl ⟨by grind [fi], rfl, rfl, rfl⟩
    · refine x_bipush (-4) DX11_first_12 (by decide) ?_
      refine x_goto 35 DX11_first_14 (by decide) ?_
      exact x_ireturn DX11_first_35 rfl ⟨by grind [fi], rfl, rfl, rfl⟩
theorem x_isWeek (K : gK) (w : Int32) (ι : gIm) (ρ : gRm) (Λ : gLm)  : gCe K 1 0 0 jX8_isWeek [vI w] ι ρ Λ (some (vI (b2i (0 ≤ w ∧ w < 52)))) ι ρ Λ := by
  refine gC_of (by decide) (nle rfl) ?_
  refine x_iload_n 0 DX8_isWeek_0 rfl rfl ?_
  refine x_if_lt 14 DX8_isWeek_1 (by decide) (fun c_1 => ?_) (fun c_1 => ?_)
  · refine x_iconst 0 DX8_isWeek_14 (by decide) ?_
    exact x_zreturn DX8_isWeek_15 rfl (Or.inl rfl) ⟨by grind [b2i], rfl, rfl, rfl⟩
  · refine x_iload_n 0 DX8_isWeek_4 rfl rfl ?_
    refine x_bipush 52 DX8_isWeek_5 (by decide) ?_
    refine x_icmp_ge 14 DX8_isWeek_7 (by decide) (fun c_7 => ?_) (fun c_7 => ?_)
    · refine x_iconst 0 DX8_isWeek_14 (by decide) ?_
      exact x_zreturn DX8_isWeek_15 rfl (Or.inl rfl) ⟨by grind [b2i], rfl, rfl, rfl⟩
    · refine x_iconst 1 DX8_isWeek_10 (by decide) ?_
      refine x_goto 15 DX8_isWeek_11 (by decide) ?_
      exact x_zreturn DX8_isWeek_15 rfl (Or.inr rfl) ⟨by grind [b2i], rfl, rfl, rfl⟩
theorem x_forget (K : gK)  (ι : gIm) (ρ : gRm) (Λ : gLm) (hF : gFix ρ Λ) : gCe K 1 0 0 jX8_forgetRain [vR 2] ι ρ Λ none (xTurn1 ι 52) ρ Λ := by
  refine gC_of (by decide) (nle rfl) ?_
  refine x_iconst 0 DX8_forgetRain_0 (by decide) ?_
  refine x_istore_n 1 (lv' := [some (vR 2), some (vI 0)]) DX8_forgetRain_1 rfl ⟨nlt rfl, nlt rfl⟩ rfl ?_
  refine x_lv (lv' := [some (vR 2), some (vI (nI 0))]) (lvS (lvI nI_0.symm rfl)) ?_
  refine lpn (W := fun i => ∀ z, z = xTurn1 ι i → gX K none 1 0 0 jX8_forgetRain 2 [some (vR 2), some (vI (nI i))] [] 0 0 z ρ Λ _) 52 (fun i hi ihi z hz => ?_) 0 (by omega) ?_ _ (by rw [xTurn1, fil_0, va_up_id])
  · refine x_iload_n 1 DX8_forgetRain_2 rfl rfl ?_
    refine x_bipush 52 DX8_forgetRain_3 (by decide) ?_
    refine x_icmp_ge 21 DX8_forgetRain_5 (by decide) (fun c_5 => False.elim (by rw [show (52 : Int32) = nI 52 from rfl, nI_le1 (by omega) (by omega)] at c_5; omega)) (fun c_5 => ?_)
    refine x_aload_n 0 DX8_forgetRain_8 rfl rfl ?_
    refine x_getr 2 (some 3) DX8_forgetRain_9 (Or.inr F8_9) rfl rfl (hF.1 2 2 3 rfl) ?_
    refine x_iload_n 1 DX8_forgetRain_12 rfl rfl ?_
    refine x_iconst (-1) DX8_forgetRain_13 (by decide) ?_
    refine x_iast i (nI_cl1 (by omega)) DX8_forgetRain_14 rfl (gIn.fx hF (c := 3) (n := 52) rfl (gIn_nI (by omega) (by omega))) (fun ι14 e_ι14 => ?_)
    refine x_iinc ((nI i) + 1) (lv' := [some (vR 2), some (vI ((nI i) + 1))]) DX8_forgetRain_15 rfl rfl (nlt rfl) rfl ?_
    refine x_goto 2 DX8_forgetRain_18 (by decide) ?_
    refine x_lv (lv' := [some (vR 2), some (vI (nI (i + 1)))]) (lvS (lvI (nI_1 i) rfl)) ?_
    exact ihi _ (by rw [e_ι14, hz]; exact up2_fil ι 3 i (fun _ => -1) (ι 3))
  · intro z hz
    refine x_iload_n 1 DX8_forgetRain_2 rfl rfl ?_
    refine x_bipush 52 DX8_forgetRain_3 (by decide) ?_
    refine x_icmp_ge 21 DX8_forgetRain_5 (by decide) (fun c_5 => ?_) (fun c_5 => False.elim (c_5 (by rw [show (52 : Int32) = nI 52 from rfl]; exact nI_le (by omega) (by omega))))
    exact x_return DX8_forgetRain_21 rfl ⟨rfl, hz, rfl, rfl⟩
theorem x_tell (K : gK) (w v : Int32) (ι : gIm) (ρ : gRm) (Λ : gLm) (hF : gFix ρ Λ) (hw : 0 ≤ w ∧ w < 52) : gCe K 2 0 0 jX8_tell [vR 2, vI w, vI v] ι ρ Λ (some (vI (ι 3 w.toNatClampNeg))) (up2 ι 3 w.toNatClampNeg v) ρ Λ := by
  refine gC_of (by decide) (nle rfl) ?_
  refine x_iload_n 1 DX8_tell_0 rfl rfl ?_
  refine x_Se (av := [vI w]) (rest := []) (st' := [vI (b2i (0 ≤ w ∧ w < 52))]) 0 0 DX8_tell_1 L8_18 rfl rfl ⟨nle rfl, nle rfl, nle rfl⟩ ⟨rfl, nle rfl⟩ ⟨rfl, nle rfl⟩ (x_isWeek K w ι ρ Λ) rfl ?_
  refine x_if_ne_b 9 DX8_tell_4 (by decide) (fun c_4 => ?_) (fun c_4 => False.elim (c_4 hw))
  refine x_aload_n 0 DX8_tell_9 rfl rfl ?_
  refine x_getr 2 (some 3) DX8_tell_10 (Or.inr F8_9) rfl rfl (hF.1 2 2 3 rfl) ?_
  refine x_iload_n 1 DX8_tell_13 rfl rfl ?_
  refine x_iald (v := (ι 3 w.toNatClampNeg)) w.toNatClampNeg rfl DX8_tell_14 rfl (gIn.fx hF (c := 3) (n := 52) rfl (gIn_of 52 hw rfl)) rfl ?_
  refine x_istore_n 3 (lv' := [some (vR 2), some (vI w), some (vI v), some (vI (ι 3 w.toNatClampNeg))]) DX8_tell_15 rfl ⟨nlt rfl, nlt rfl⟩ rfl ?_
  refine x_aload_n 0 DX8_tell_16 rfl rfl ?_
  refine x_getr 2 (some 3) DX8_tell_17 (Or.inr F8_9) rfl rfl (hF.1 2 2 3 rfl) ?_
  refine x_iload_n 1 DX8_tell_20 rfl rfl ?_
  refine x_iload_n 2 DX8_tell_21 rfl rfl ?_
  refine x_iast w.toNatClampNeg rfl DX8_tell_22 rfl (gIn.fx hF (c := 3) (n := 52) rfl (gIn_of 52 hw rfl)) (fun ι22 e_ι22 => ?_)
  refine x_iload_n 3 DX8_tell_23 rfl rfl ?_
  exact x_ireturn DX8_tell_24 rfl ⟨rfl, by assumption, rfl, rfl⟩
theorem x_counted0 (K : gK) (w : Nat) (ι : gIm) (ρ : gRm) (Λ : gLm) (hF : gFix ρ Λ) (ht : ∀ k, k < 52 → -1 ≤ ι 3 k) (hw : w < 52) : gCe K 2 0 0 jX8_counted [vR 2, vI (nI w)] ι ρ Λ (some (vI (sCounts (ι 3) w))) ι ρ Λ := by
  refine gC_of (by decide) (nle rfl) ?_
  refine x_iload_n 1 DX8_counted_0 rfl rfl ?_
  refine x_Se (av := [vI (nI w)]) (rest := []) (st' := [vI (b2i (0 ≤ (nI w) ∧ (nI w) < 52))]) 0 0 DX8_counted_1 L8_18 rfl rfl ⟨nle rfl, nle rfl, nle rfl⟩ ⟨rfl, nle rfl⟩ ⟨rfl, nle rfl⟩ (x_isWeek K (nI w) ι ρ Λ) rfl ?_
  refine x_if_ne_b 9 DX8_counted_4 (by decide) (fun c_4 => ?_) (fun c_4 => False.elim (c_4 ⟨nI_pos' (by omega), nI_lt (b := 52) (by omega) (by omega)⟩))
  refine x_aload_n 0 DX8_counted_9 rfl rfl ?_
  refine x_getr 2 (some 3) DX8_counted_10 (Or.inr F8_9) rfl rfl (hF.1 2 2 3 rfl) ?_
  refine x_iload_n 1 DX8_counted_13 rfl rfl ?_
  refine x_iald (v := (ι 3 w)) w (nI_cl1 (by omega)) DX8_counted_14 rfl (gIn.fx hF (c := 3) (n := 52) rfl (gIn_nI (by omega) (by omega))) rfl ?_
  refine x_iconst (-1) DX8_counted_15 (by decide) ?_
  refine x_icmp_eq 26 DX8_counted_16 (by decide) (fun c_16 => ?_) (fun c_16 => ?_)
  · have htw := ht w hw
    refine x_iload_n 1 DX8_counted_26 rfl rfl ?_
    refine x_bipush 13 DX8_counted_27 (by decide) ?_
    refine x_idiv DX8_counted_29 (by decide) ?_
    refine x_bipush 13 DX8_counted_30 (by decide) ?_
    refine x_imul DX8_counted_32 ?_
    refine x_istore_n 2 (lv' := [some (vR 2), some (vI (nI w)), some (vI (((nI w) / 13) * 13)), none, none]) DX8_counted_33 rfl ⟨nlt rfl, nlt rfl⟩ rfl ?_
    refine x_iconst (-1) DX8_counted_34 (by decide) ?_
    refine x_istore_n 3 (lv' := [some (vR 2), some (vI (nI w)), some (vI (((nI w) / 13) * 13)), some (vI (-1)), none]) DX8_counted_35 rfl ⟨nlt rfl, nlt rfl⟩ rfl ?_
    refine x_iload_n 2 DX8_counted_36 rfl rfl ?_
    refine x_istore (lv' := [some (vR 2), some (vI (nI w)), some (vI (((nI w) / 13) * 13)), some (vI (-1)), some (vI (((nI w) / 13) * 13))]) DX8_counted_37 ⟨nlt rfl, nlt rfl⟩ rfl ?_
    have h13 : nI w / 13 * 13 = nI (w / 13 * 13) := by rw [show (13 : Int32) = nI 13 from rfl, pk_div (by omega) (by omega) (by omega), pk_mul]
    have h14 : nI (w / 13 * 13) + 13 = nI (w / 13 * 13 + 13) := by rw [show (13 : Int32) = nI 13 from rfl, nI_add]
    refine x_lv (lv' := [some (vR 2), some (vI (nI w)), some (vI (nI (w / 13 * 13))), some (vI (-1)), some (vI (nI (w / 13 * 13)))]) (by rw [h13]) ?_
    refine lp0 (W := fun i a => gX K none 2 0 0 jX8_counted 39 [some (vR 2), some (vI (nI w)), some (vI (nI (w / 13 * 13))), some (vI a), some (vI (nI i))] [] 0 0 ι ρ Λ _) (fun i a => imax a (ι 3 i)) (w / 13 * 13 + 13) (fun i a hi ih => ?_) (w / 13 * 13) (-1) (by omega) ?_
    · refine x_iload DX8_counted_39 rfl ?_
      refine x_iload_n 2 DX8_counted_41 rfl rfl ?_
      refine x_bipush 13 DX8_counted_42 (by decide) ?_
      refine x_iadd DX8_counted_44 ?_
      refine x_icmp_ge 73 DX8_counted_45 (by decide) (fun c_45 => False.elim (by rw [h14, nI_le1 (by omega) (by omega)] at c_45; omega)) (fun c_45 => ?_)
      refine x_iload DX8_counted_48 rfl ?_
      refine x_bipush 52 DX8_counted_50 (by decide) ?_
      refine x_icmp_ge 73 DX8_counted_52 (by decide) (fun c_52 => False.elim (by rw [show (52 : Int32) = nI 52 from rfl, nI_le1 (by omega) (by omega)] at c_52; omega)) (fun c_52 => ?_)
      refine x_iload_n 3 DX8_counted_55 rfl rfl ?_
      refine x_aload_n 0 DX8_counted_56 rfl rfl ?_
      refine x_getr 2 (some 3) DX8_counted_57 (Or.inr F8_9) rfl rfl (hF.1 2 2 3 rfl) ?_
      refine x_iload DX8_counted_60 rfl ?_
      refine x_iald (v := (ι 3 i)) i (nI_cl1 (by omega)) DX8_counted_62 rfl (gIn.fx hF (c := 3) (n := 52) rfl (gIn_nI (by omega) (by omega))) rfl ?_
      refine x_Se (av := [vI a, vI (ι 3 i)]) (rest := []) (st' := [vI (imax a (ι 3 i))]) 0 0 DX8_counted_63 L8_22 rfl rfl ⟨nle rfl, nle rfl, nle rfl⟩ ⟨rfl, nle rfl⟩ ⟨rfl, nle rfl⟩ (j_max K a (ι 3 i) ι ρ Λ) rfl ?_
      refine x_istore_n 3 (lv' := [some (vR 2), some (vI (nI w)), some (vI (nI (w / 13 * 13))), some (vI (imax a (ι 3 i))), some (vI (nI i))]) DX8_counted_66 rfl ⟨nlt rfl, nlt rfl⟩ rfl ?_
      refine x_iinc ((nI i) + 1) (lv' := [some (vR 2), some (vI (nI w)), some (vI (nI (w / 13 * 13))), some (vI (imax a (ι 3 i))), some (vI ((nI i) + 1))]) DX8_counted_67 rfl rfl (nlt rfl) rfl ?_
      refine x_goto 39 DX8_counted_70 (by decide) ?_
      refine x_lv (lv' := [some (vR 2), some (vI (nI w)), some (vI (nI (w / 13 * 13))), some (vI (imax a (ι 3 i))), some (vI (nI (i + 1)))]) (lvS (lvS (lvS (lvS (lvI (nI_1 i) rfl))))) ?_
      exact ih
    · rw [show w / 13 * 13 + 13 - w / 13 * 13 = 13 by omega]
      have hm : -1 ≤ sMost (ι 3) (w / 13 * 13) := sMost_ge _ _
      show gX K none 2 0 0 jX8_counted 39 [some (vR 2), some (vI (nI w)), some (vI (nI (w / 13 * 13))), some (vI (sMost (ι 3) (w / 13 * 13))), some (vI (nI (w / 13 * 13 + 13)))] [] 0 0 ι ρ Λ _
      refine x_iload DX8_counted_39 rfl ?_
      refine x_iload_n 2 DX8_counted_41 rfl rfl ?_
      refine x_bipush 13 DX8_counted_42 (by decide) ?_
      refine x_iadd DX8_counted_44 ?_
      refine x_icmp_ge 73 DX8_counted_45 (by decide) (fun c_45 => ?_) (fun c_45 => False.elim (c_45 (by rw [h14]; exact nI_le (Nat.le_refl _) (by omega))))
      refine x_iload_n 3 DX8_counted_73 rfl rfl ?_
      refine x_iconst (-1) DX8_counted_74 (by decide) ?_
      refine x_icmp_ne 82 DX8_counted_75 (by decide) (fun c_75 => ?_) (fun c_75 => ?_)
      · refine x_iload_n 3 DX8_counted_82 rfl rfl ?_
        exact x_ireturn DX8_counted_83 rfl ⟨by grind [sCounts], rfl, rfl, rfl⟩
      · refine x_iconst 5 DX8_counted_78 (by decide) ?_
        refine x_goto 83 DX8_counted_79 (by decide) ?_
        exact x_ireturn DX8_counted_83 rfl ⟨by grind [sCounts], rfl, rfl, rfl⟩
  · have htw := ht w hw
    refine x_aload_n 0 DX8_counted_19 rfl rfl ?_
    refine x_getr 2 (some 3) DX8_counted_20 (Or.inr F8_9) rfl rfl (hF.1 2 2 3 rfl) ?_
    refine x_iload_n 1 DX8_counted_23 rfl rfl ?_
    refine x_iald (v := (ι 3 w)) w (nI_cl1 (by omega)) DX8_counted_24 rfl (gIn.fx hF (c := 3) (n := 52) rfl (gIn_nI (by omega) (by omega))) rfl ?_
    exact x_ireturn DX8_counted_25 rfl ⟨by have htw := ht w hw; grind [sCounts], rfl, rfl, rfl⟩
theorem x_counted (K : gK) (w : Int32) (ι : gIm) (ρ : gRm) (Λ : gLm) (hF : gFix ρ Λ) (ht : ∀ k, k < 52 → -1 ≤ ι 3 k) (hw : gIn w 52) : gCe K 2 0 0 jX8_counted [vR 2, vI w] ι ρ Λ (some (vI (sCounts (ι 3) w.toNatClampNeg))) ι ρ Λ := by
  have h := x_counted0 K w.toNatClampNeg ι ρ Λ hF ht hw.2
  rw [← hw.nI] at h
  exact h
theorem x_wetOf (K : gK) (w : Int32) (ι : gIm) (ρ : gRm) (Λ : gLm) (hF : gFix ρ Λ) (ht : ∀ k, k < 52 → -1 ≤ ι 3 k) (hw : gIn w 52) : gCe K 3 0 0 jX8_wetOf [vR 2, vI w] ι ρ Λ (some (vI (sWet (ι 3) w.toNatClampNeg))) ι ρ Λ := by
  refine gC_of (by decide) (nle rfl) ?_
  refine x_aload_n 0 DX8_wetOf_0 rfl rfl ?_
  refine x_iload_n 1 DX8_wetOf_1 rfl rfl ?_
  refine x_Ve (ci := 8) (av := [vI w]) (rest := []) (st' := [vI (sCounts (ι 3) w.toNatClampNeg)]) 0 0 DX8_wetOf_2 L8_28 rfl rfl rfl rfl rfl ⟨nle rfl, nle rfl, nle rfl⟩ ⟨rfl, nle rfl⟩ ⟨rfl, nle rfl⟩ (x_counted K w ι ρ Λ hF ht hw) rfl ?_
  refine x_istore_n 2 (lv' := [some (vR 2), some (vI w), some (vI (sCounts (ι 3) w.toNatClampNeg))]) DX8_wetOf_5 rfl ⟨nlt rfl, nlt rfl⟩ rfl ?_
  refine x_iload_n 2 DX8_wetOf_6 rfl rfl ?_
  refine x_bipush 7 DX8_wetOf_7 (by decide) ?_
  refine x_icmp_lt 18 DX8_wetOf_9 (by decide) (fun c_9 => ?_) (fun c_9 => ?_)
  · refine x_iload_n 2 DX8_wetOf_18 rfl rfl ?_
    exact x_ireturn DX8_wetOf_19 rfl ⟨by grind [sWet], rfl, rfl, rfl⟩
  · refine x_iconst 2 DX8_wetOf_12 (by decide) ?_
    refine x_iload_n 2 DX8_wetOf_13 rfl rfl ?_
    refine x_imul DX8_wetOf_14 ?_
    refine x_goto 19 DX8_wetOf_15 (by decide) ?_
    exact x_ireturn DX8_wetOf_19 rfl ⟨by grind [sWet], rfl, rfl, rfl⟩
theorem x_turn (K : gK)  (ι : gIm) (ρ : gRm) (Λ : gLm) (hF : gFix ρ Λ) : gCe K 2 0 0 jX8_turn [vR 2] ι ρ Λ none (xTurn ι) ρ Λ := by
  refine gC_of (by decide) (nle rfl) ?_
  refine x_aload_n 0 DX8_turn_0 rfl rfl ?_
  refine x_dup DX8_turn_1 ?_
  refine x_geti (v := (ι 2 0)) 0 DX8_turn_2 (Or.inl F8_32) rfl rfl rfl ?_
  refine x_iconst 1 DX8_turn_5 (by decide) ?_
  refine x_iadd DX8_turn_6 ?_
  refine x_puti 0 DX8_turn_7 F8_32 rfl (Or.inl rfl) rfl (fun ι7 e_ι7 => ?_)
  refine x_aload_n 0 DX8_turn_10 rfl rfl ?_
  refine x_iconst 0 DX8_turn_11 (by decide) ?_
  refine x_puti 1 DX8_turn_12 F8_36 rfl (Or.inl rfl) rfl (fun ι12 e_ι12 => ?_)
  refine x_aload_n 0 DX8_turn_15 rfl rfl ?_
  refine x_Ve (ci := 8) (av := []) (rest := []) (st' := []) 0 0 DX8_turn_16 L8_15 rfl rfl rfl rfl rfl ⟨nle rfl, nle rfl, nle rfl⟩ ⟨rfl, nle rfl⟩ ⟨rfl, nle rfl⟩ (x_forget K ι12 ρ Λ hF) rfl ?_
  refine x_nmι (fun ι16 e_ι16 => ?_)
  exact x_return DX8_turn_19 rfl ⟨rfl, by subst_vars; rfl, rfl, rfl⟩
theorem x_rain (K : gK) (w v : Int32) (ι : gIm) (ρ : gRm) (Λ : gLm) (hF : gFix ρ Λ) : gCe K 3 0 0 jX11_rain [vR 0, vI w, vI v] ι ρ Λ (some (vI (rsF (cRain w v) (ι 3 w.toNatClampNeg)))) (rsM (cRain w v) 1 ι (up2 ι 3 w.toNatClampNeg v)) ρ Λ := by
  refine gC_of (by decide) (nle rfl) ?_
  refine x_iload_n 1 DX11_rain_0 rfl rfl ?_
  refine x_Se (av := [vI w]) (rest := []) (st' := [vI (b2i (0 ≤ w ∧ w < 52))]) 0 0 DX11_rain_1 L11_76 rfl rfl ⟨nle rfl, nle rfl, nle rfl⟩ ⟨rfl, nle rfl⟩ ⟨rfl, nle rfl⟩ (x_isWeek K w ι ρ Λ) rfl ?_
  refine x_if_ne_b 13 DX11_rain_4 (by decide) (fun c_4 => ?_) (fun c_4 => ?_)
  · refine x_iload_n 2 DX11_rain_13 rfl rfl ?_
    refine x_iconst (-1) DX11_rain_14 (by decide) ?_
    refine x_bipush 9 DX11_rain_15 (by decide) ?_
    refine x_Se (av := [vI v, vI (-1), vI 9]) (rest := []) (st' := [vI (wr v (-1) 9)]) 0 0 DX11_rain_17 L11_83 rfl rfl ⟨nle rfl, nle rfl, nle rfl⟩ ⟨rfl, nle rfl⟩ ⟨rfl, nle rfl⟩ (x_misfit K v (-1) 9 ι ρ Λ) rfl ?_
    refine x_istore_n 3 (lv' := [some (vR 0), some (vI w), some (vI v), some (vI (wr v (-1) 9))]) DX11_rain_20 rfl ⟨nlt rfl, nlt rfl⟩ rfl ?_
    refine x_iload_n 3 DX11_rain_21 rfl rfl ?_
    refine x_if_eq 33 DX11_rain_22 (by decide) (fun c_22 => ?_) (fun c_22 => ?_)
    · refine x_aload_n 0 DX11_rain_33 rfl rfl ?_
      refine x_getr 1 (some 2) DX11_rain_34 (Or.inr F11_16) rfl rfl (hF.1 0 1 2 rfl) ?_
      refine x_iload_n 1 DX11_rain_37 rfl rfl ?_
      refine x_iload_n 2 DX11_rain_38 rfl rfl ?_
      refine x_Ve (ci := 8) (av := [vI w, vI v]) (rest := []) (st' := [vI (ι 3 w.toNatClampNeg)]) 0 0 DX11_rain_39 L11_87 rfl rfl rfl rfl rfl ⟨nle rfl, nle rfl, nle rfl⟩ ⟨rfl, nle rfl⟩ ⟨rfl, nle rfl⟩ (x_tell K w v ι ρ Λ hF (by assumption)) rfl ?_
      refine x_nmι (fun ι39 e_ι39 => ?_)
      exact x_ireturn DX11_rain_42 rfl ⟨by grind [cRain, rsF, rsM], by grind [cRain, rsF, rsM], rfl, rfl⟩
    · refine x_aload_n 0 DX11_rain_25 rfl rfl ?_
      refine x_iload_n 3 DX11_rain_26 rfl rfl ?_
      refine x_Ve (ci := 11) (av := [vI (wr v (-1) 9)]) (rest := []) (st' := [vI (1000000000 - (wr v (-1) 9))]) 0 0 DX11_rain_27 L11_80 rfl rfl rfl rfl rfl ⟨nle rfl, nle rfl, nle rfl⟩ ⟨rfl, nle rfl⟩ ⟨rfl, nle rfl⟩ (x_refuseF K (wr v (-1) 9) ι ρ Λ hF (wr_in _ _ _ (by assumption))) rfl ?_
      refine x_nmι (fun ι27 e_ι27 => ?_)
      refine x_goto 42 DX11_rain_30 (by decide) ?_
      exact x_ireturn DX11_rain_42 rfl ⟨by grind [cRain, rsF, rsM], by grind [cRain, rsF, rsM], rfl, rfl⟩
  · refine x_aload_n 0 DX11_rain_7 rfl rfl ?_
    refine x_iconst (-1) DX11_rain_8 (by decide) ?_
    refine x_Ve (ci := 11) (av := [vI (-1)]) (rest := []) (st' := [vI (1000000000 - (-1))]) 0 0 DX11_rain_9 L11_80 rfl rfl rfl rfl rfl ⟨nle rfl, nle rfl, nle rfl⟩ ⟨rfl, nle rfl⟩ ⟨rfl, nle rfl⟩ (x_refuseF K (-1) ι ρ Λ hF ⟨by decide, by decide⟩) rfl ?_
    refine x_nmι (fun ι9 e_ι9 => ?_)
    exact x_ireturn DX11_rain_12 rfl ⟨by grind [cRain, rsF, rsM], by grind [cRain, rsF, rsM], rfl, rfl⟩
theorem x_rainOf (K : gK) (w : Int32) (ι : gIm) (ρ : gRm) (Λ : gLm) (hF : gFix ρ Λ) (ht : ∀ k, k < 52 → -1 ≤ ι 3 k) : gCe K 3 0 0 jX11_rainOf [vR 0, vI w] ι ρ Λ (some (vI (rs (cWeek w) (sCounts (ι 3) w.toNatClampNeg)))) (rsM (cWeek w) 1 ι ι) ρ Λ := by
  refine gC_of (by decide) (nle rfl) ?_
  refine x_iload_n 1 DX11_rainOf_0 rfl rfl ?_
  refine x_Se (av := [vI w]) (rest := []) (st' := [vI (b2i (0 ≤ w ∧ w < 52))]) 0 0 DX11_rainOf_1 L11_76 rfl rfl ⟨nle rfl, nle rfl, nle rfl⟩ ⟨rfl, nle rfl⟩ ⟨rfl, nle rfl⟩ (x_isWeek K w ι ρ Λ) rfl ?_
  refine x_if_eq_b 18 DX11_rainOf_4 (by decide) (fun c_4 => ?_) (fun c_4 => ?_)
  · refine x_aload_n 0 DX11_rainOf_18 rfl rfl ?_
    refine x_iconst (-1) DX11_rainOf_19 (by decide) ?_
    refine x_Ve (ci := 11) (av := [vI (-1)]) (rest := []) (st' := [vI (-1)]) 0 0 DX11_rainOf_20 L11_72 rfl rfl rfl rfl rfl ⟨nle rfl, nle rfl, nle rfl⟩ ⟨rfl, nle rfl⟩ ⟨rfl, nle rfl⟩ (x_refuse K (-1) ι ρ Λ hF ⟨by decide, by decide⟩) rfl ?_
    refine x_nmι (fun ι20 e_ι20 => ?_)
    exact x_ireturn DX11_rainOf_23 rfl ⟨by grind [cWeek, rs, rsM], by grind [cWeek, rs, rsM], rfl, rfl⟩
  · refine x_aload_n 0 DX11_rainOf_7 rfl rfl ?_
    refine x_getr 1 (some 2) DX11_rainOf_8 (Or.inr F11_16) rfl rfl (hF.1 0 1 2 rfl) ?_
    refine x_iload_n 1 DX11_rainOf_11 rfl rfl ?_
    refine x_Ve (ci := 8) (av := [vI w]) (rest := []) (st' := [vI (sCounts (ι 3) w.toNatClampNeg)]) 0 0 DX11_rainOf_12 L11_91 rfl rfl rfl rfl rfl ⟨nle rfl, nle rfl, nle rfl⟩ ⟨rfl, nle rfl⟩ ⟨rfl, nle rfl⟩ (x_counted K w ι ρ Λ hF ht (gIn_of 52 (by assumption) rfl)) rfl ?_
    refine x_goto 23 DX11_rainOf_15 (by decide) ?_
    exact x_ireturn DX11_rainOf_23 rfl ⟨by grind [cWeek, rs, rsM], by grind [cWeek, rs, rsM], rfl, rfl⟩
