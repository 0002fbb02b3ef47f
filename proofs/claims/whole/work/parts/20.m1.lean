/-! the model, I -/
theorem m_refuse (K : gK) (n : Int32) (ι : gIm) (ρ : gRm) (Λ : gLm) (hF : gFix ρ Λ) (hn : gIn (-n) 7) : gCe K 1 0 0 jX12_refuse [vR 40, vI n] ι ρ Λ (some (vI n)) (rf 41 ι n) ρ Λ := by
  refine gC_of (by decide) (nle rfl) ?_
  refine x_aload_n 0 DX12_refuse_0 rfl rfl ?_
  refine x_getr 0 (some 41) DX12_refuse_1 (Or.inr F12_7) rfl rfl (hF.1 40 0 41 rfl) ?_
  refine x_iload_n 1 DX12_refuse_4 rfl rfl ?_
  refine x_ineg DX12_refuse_5 ?_
  refine x_dup2 DX12_refuse_6 ?_
  refine x_iald (v := (ι 41 ((-n).toNatClampNeg))) ((-n).toNatClampNeg) rfl DX12_refuse_7 rfl (gIn.fx hF (c := 41) (n := 7) rfl hn) rfl ?_
  refine x_iconst 1 DX12_refuse_8 (by decide) ?_
  refine x_iadd DX12_refuse_9 ?_
  refine x_iast ((-n).toNatClampNeg) rfl DX12_refuse_10 rfl (gIn.fx hF (c := 41) (n := 7) rfl hn) (fun ι10 e_ι10 => ?_)
  refine x_iload_n 1 DX12_refuse_11 rfl rfl ?_
  exact x_ireturn DX12_refuse_12 rfl ⟨rfl, by rw [rf]; assumption, rfl, rfl⟩
theorem m_refuseFar (K : gK) (n : Int32) (ι : gIm) (ρ : gRm) (Λ : gLm) (hF : gFix ρ Λ) (hn : gIn (-n) 7) : gCe K 2 0 0 jX12_refuseFar [vR 40, vI n] ι ρ Λ (some (vI (1000000000 - n))) (rf 41 ι n) ρ Λ := by
  refine gC_of (by decide) (nle rfl) ?_
  refine x_ldc DX12_refuseFar_0 gw4_231 ?_
  refine x_aload_n 0 DX12_refuseFar_2 rfl rfl ?_
  refine x_iload_n 1 DX12_refuseFar_3 rfl rfl ?_
  refine x_Ve (ci := 12) (av := [vI n]) (rest := [vI 1000000000]) (st' := [vI n, vI 1000000000]) 0 0 DX12_refuseFar_4 L12_120 rfl rfl rfl rfl rfl ⟨nle rfl, nle rfl, nle rfl⟩ ⟨rfl, nle rfl⟩ ⟨rfl, nle rfl⟩ (m_refuse K n ι ρ Λ hF hn) rfl ?_
  refine x_nmι (fun ι4 e_ι4 => ?_)
  refine x_isub DX12_refuseFar_7 ?_
  exact x_ireturn DX12_refuseFar_8 rfl ⟨rfl, by assumption, rfl, rfl⟩
theorem m_isIn (K : gK) (k n : Int32) (ι : gIm) (ρ : gRm) (Λ : gLm)  : gCe K 1 0 0 jX12_isIn [vI k, vI n] ι ρ Λ (some (vI (b2i (0 ≤ k ∧ k < n)))) ι ρ Λ := by
  refine gC_of (by decide) (nle rfl) ?_
  refine x_iload_n 0 DX12_isIn_0 rfl rfl ?_
  refine x_if_lt 13 DX12_isIn_1 (by decide) (fun c_1 => ?_) (fun c_1 => ?_)
  · refine x_iconst 0 DX12_isIn_13 (by decide) ?_
    exact x_zreturn DX12_isIn_14 rfl (Or.inl rfl) ⟨by grind [b2i], rfl, rfl, rfl⟩
  · refine x_iload_n 0 DX12_isIn_4 rfl rfl ?_
    refine x_iload_n 1 DX12_isIn_5 rfl rfl ?_
    refine x_icmp_ge 13 DX12_isIn_6 (by decide) (fun c_6 => ?_) (fun c_6 => ?_)
    · refine x_iconst 0 DX12_isIn_13 (by decide) ?_
      exact x_zreturn DX12_isIn_14 rfl (Or.inl rfl) ⟨by grind [b2i], rfl, rfl, rfl⟩
    · refine x_iconst 1 DX12_isIn_9 (by decide) ?_
      refine x_goto 14 DX12_isIn_10 (by decide) ?_
      exact x_zreturn DX12_isIn_14 rfl (Or.inr rfl) ⟨by grind [b2i], rfl, rfl, rfl⟩
theorem m_wrong (K : gK) (v a b : Int32) (ι : gIm) (ρ : gRm) (Λ : gLm)  : gCe K 1 0 0 jX12_wrong [vI v, vI a, vI b] ι ρ Λ (some (vI (wr v a b))) ι ρ Λ := by
  refine gC_of (by decide) (nle rfl) ?_
  refine x_iload_n 0 DX12_wrong_0 rfl rfl ?_
  refine x_iload_n 1 DX12_wrong_1 rfl rfl ?_
  refine x_icmp_ge 10 DX12_wrong_2 (by decide) (fun c_2 => ?_) (fun c_2 => ?_)
  · refine x_iload_n 0 DX12_wrong_10 rfl rfl ?_
    refine x_iload_n 2 DX12_wrong_11 rfl rfl ?_
    refine x_icmp_le 20 DX12_wrong_12 (by decide) (fun c_12 => ?_) (fun c_12 => ?_)
    · refine x_iconst 0 DX12_wrong_20 (by decide) ?_
      exact x_ireturn DX12_wrong_21 rfl ⟨by grind [wr], rfl, rfl, rfl⟩
    · refine x_bipush (-6) DX12_wrong_15 (by decide) ?_
      refine x_goto 21 DX12_wrong_17 (by decide) ?_
      exact x_ireturn DX12_wrong_21 rfl ⟨by grind [wr], rfl, rfl, rfl⟩
  · refine x_bipush (-4) DX12_wrong_5 (by decide) ?_
    refine x_goto 21 DX12_wrong_7 (by decide) ?_
    exact x_ireturn DX12_wrong_21 rfl ⟨by grind [wr], rfl, rfl, rfl⟩
theorem j_max (K : gK) (a b : Int32) (ι : gIm) (ρ : gRm) (Λ : gLm)  : gCe K 1 0 0 jJ9_max_7cf53 [vI a, vI b] ι ρ Λ (some (vI (imax a b))) ι ρ Λ := by
  refine gC_of (by decide +kernel) (nle rfl) ?_
  refine x_iload_n 0 DJ9_max_7cf53_0 rfl rfl ?_
  refine x_iload_n 1 DJ9_max_7cf53_1 rfl rfl ?_
  refine x_icmp_lt 9 DJ9_max_7cf53_2 (by decide) (fun c_2 => ?_) (fun c_2 => ?_)
  · refine x_iload_n 1 DJ9_max_7cf53_9 rfl rfl ?_
    exact x_ireturn DJ9_max_7cf53_10 rfl ⟨by grind [imax], rfl, rfl, rfl⟩
  · refine x_iload_n 0 DJ9_max_7cf53_5 rfl rfl ?_
    refine x_goto 10 DJ9_max_7cf53_6 (by decide) ?_
    exact x_ireturn DJ9_max_7cf53_10 rfl ⟨by grind [imax], rfl, rfl, rfl⟩
theorem j_min (K : gK) (a b : Int32) (ι : gIm) (ρ : gRm) (Λ : gLm)  : gCe K 1 0 0 jJ9_min_7cf53 [vI a, vI b] ι ρ Λ (some (vI (imin a b))) ι ρ Λ := by
  refine gC_of (by decide +kernel) (nle rfl) ?_
  refine x_iload_n 0 DJ9_min_7cf53_0 rfl rfl ?_
  refine x_iload_n 1 DJ9_min_7cf53_1 rfl rfl ?_
  refine x_icmp_gt 9 DJ9_min_7cf53_2 (by decide) (fun c_2 => ?_) (fun c_2 => ?_)
  · refine x_iload_n 1 DJ9_min_7cf53_9 rfl rfl ?_
    exact x_ireturn DJ9_min_7cf53_10 rfl ⟨by grind [imin], rfl, rfl, rfl⟩
  · refine x_iload_n 0 DJ9_min_7cf53_5 rfl rfl ?_
    refine x_goto 10 DJ9_min_7cf53_6 (by decide) ?_
    exact x_ireturn DJ9_min_7cf53_10 rfl ⟨by grind [imin], rfl, rfl, rfl⟩
theorem m_rain (K : gK) (w v : Int32) (ι : gIm) (ρ : gRm) (Λ : gLm) (hF : gFix ρ Λ) : gCe K 3 0 0 jX12_rain [vR 40, vI w, vI v] ι ρ Λ (some (vI (rsF (cRain w v) (ι 42 w.toNatClampNeg)))) (rsM (cRain w v) 41 ι (up2 ι 42 w.toNatClampNeg v)) ρ Λ := by
  refine gC_of (by decide) (nle rfl) ?_
  refine x_iload_n 1 DX12_rain_0 rfl rfl ?_
  refine x_bipush 52 DX12_rain_1 (by decide) ?_
  refine x_Se (av := [vI w, vI 52]) (rest := []) (st' := [vI (b2i (0 ≤ w ∧ w < 52))]) 0 0 DX12_rain_3 L12_124 rfl rfl ⟨nle rfl, nle rfl, nle rfl⟩ ⟨rfl, nle rfl⟩ ⟨rfl, nle rfl⟩ (m_isIn K w 52 ι ρ Λ) rfl ?_
  refine x_if_eq_b 19 DX12_rain_6 (by decide) (fun c_6 => ?_) (fun c_6 => ?_)
  · refine x_iconst (-1) DX12_rain_19 (by decide) ?_
    refine x_istore_n 3 (lv' := [some (vR 40), some (vI w), some (vI v), some (vI (-1)), none]) DX12_rain_20 rfl ⟨nlt rfl, nlt rfl⟩ rfl ?_
    refine x_iload_n 3 DX12_rain_21 rfl rfl ?_
    refine x_if_eq 31 DX12_rain_22 (by decide) (fun h => absurd h (by decide)) (fun _ => ?_)
    refine x_aload_n 0 DX12_rain_25 rfl rfl ?_
    refine x_iload_n 3 DX12_rain_26 rfl rfl ?_
    refine x_Ve (ci := 12) (av := [vI (-1)]) (rest := []) (st' := [vI (1000000000 - (-1))]) 0 0 DX12_rain_27 L12_132 rfl rfl rfl rfl rfl ⟨nle rfl, nle rfl, nle rfl⟩ ⟨rfl, nle rfl⟩ ⟨rfl, nle rfl⟩ (m_refuseFar K (-1) ι ρ Λ hF ⟨by decide, by decide⟩) rfl ?_
    refine x_nmι (fun ι27 e_ι27 => ?_)
    exact x_ireturn DX12_rain_30 rfl ⟨by grind [cRain, rsF, rsM], by grind [cRain, rsF, rsM], rfl, rfl⟩
  · refine x_iload_n 2 DX12_rain_9 rfl rfl ?_
    refine x_iconst (-1) DX12_rain_10 (by decide) ?_
    refine x_bipush 9 DX12_rain_11 (by decide) ?_
    refine x_Se (av := [vI v, vI (-1), vI 9]) (rest := []) (st' := [vI (wr v (-1) 9)]) 0 0 DX12_rain_13 L12_128 rfl rfl ⟨nle rfl, nle rfl, nle rfl⟩ ⟨rfl, nle rfl⟩ ⟨rfl, nle rfl⟩ (m_wrong K v (-1) 9 ι ρ Λ) rfl ?_
    refine x_goto 20 DX12_rain_16 (by decide) ?_
    refine x_istore_n 3 (lv' := [some (vR 40), some (vI w), some (vI v), some (vI (wr v (-1) 9)), none]) DX12_rain_20 rfl ⟨nlt rfl, nlt rfl⟩ rfl ?_
    refine x_iload_n 3 DX12_rain_21 rfl rfl ?_
    refine x_if_eq 31 DX12_rain_22 (by decide) (fun c_22 => ?_) (fun c_22 => ?_)
    · refine x_aload_n 0 DX12_rain_31 rfl rfl ?_
      refine x_getr 1 (some 42) DX12_rain_32 (Or.inr F12_13) rfl rfl (hF.1 40 1 42 rfl) ?_
      refine x_iload_n 1 DX12_rain_35 rfl rfl ?_
      refine x_iald (v := (ι 42 w.toNatClampNeg)) w.toNatClampNeg rfl DX12_rain_36 rfl (gIn.fx hF (c := 42) (n := 52) rfl (gIn_of 52 (by assumption) rfl)) rfl ?_
      refine x_istore (lv' := [some (vR 40), some (vI w), some (vI v), some (vI (wr v (-1) 9)), some (vI (ι 42 w.toNatClampNeg))]) DX12_rain_37 ⟨nlt rfl, nlt rfl⟩ rfl ?_
      refine x_aload_n 0 DX12_rain_39 rfl rfl ?_
      refine x_getr 1 (some 42) DX12_rain_40 (Or.inr F12_13) rfl rfl (hF.1 40 1 42 rfl) ?_
      refine x_iload_n 1 DX12_rain_43 rfl rfl ?_
      refine x_iload_n 2 DX12_rain_44 rfl rfl ?_
      refine x_iast w.toNatClampNeg rfl DX12_rain_45 rfl (gIn.fx hF (c := 42) (n := 52) rfl (gIn_of 52 (by assumption) rfl)) (fun ι45 e_ι45 => ?_)
      refine x_iload DX12_rain_46 rfl ?_
      exact x_ireturn DX12_rain_48 rfl ⟨by grind [cRain, rsF, rsM], by grind [cRain, rsF, rsM], rfl, rfl⟩
    · refine x_aload_n 0 DX12_rain_25 rfl rfl ?_
      refine x_iload_n 3 DX12_rain_26 rfl rfl ?_
      refine x_Ve (ci := 12) (av := [vI (wr v (-1) 9)]) (rest := []) (st' := [vI (1000000000 - (wr v (-1) 9))]) 0 0 DX12_rain_27 L12_132 rfl rfl rfl rfl rfl ⟨nle rfl, nle rfl, nle rfl⟩ ⟨rfl, nle rfl⟩ ⟨rfl, nle rfl⟩ (m_refuseFar K (wr v (-1) 9) ι ρ Λ hF (wr_in _ _ _ (by assumption))) rfl ?_
      refine x_nmι (fun ι27 e_ι27 => ?_)
      exact x_ireturn DX12_rain_30 rfl ⟨by grind [cRain, rsF, rsM], by grind [cRain, rsF, rsM], rfl, rfl⟩
theorem m_counts0 (K : gK) (w : Nat) (ι : gIm) (ρ : gRm) (Λ : gLm) (hF : gFix ρ Λ) (hw : w < 52) : gCe K 2 0 0 jX12_counts [vR 40, vI (nI w)] ι ρ Λ (some (vI (sCounts (ι 42) w))) ι ρ Λ := by
  refine gC_of (by decide) (nle rfl) ?_
  refine x_aload_n 0 DX12_counts_0 rfl rfl ?_
  refine x_getr 1 (some 42) DX12_counts_1 (Or.inr F12_13) rfl rfl (hF.1 40 1 42 rfl) ?_
  refine x_iload_n 1 DX12_counts_4 rfl rfl ?_
  refine x_iald (v := (ι 42 w)) w (nI_cl1 (by omega)) DX12_counts_5 rfl (gIn.fx hF (c := 42) (n := 52) rfl (gIn_nI (by omega) (by omega))) rfl ?_
  refine x_if_lt 16 DX12_counts_6 (by decide) (fun c_6 => ?_) (fun c_6 => ?_)
  · refine x_iconst (-1) DX12_counts_16 (by decide) ?_
    refine x_istore_n 2 (lv' := [some (vR 40), some (vI (nI w)), some (vI (-1)), none]) DX12_counts_17 rfl ⟨nlt rfl, nlt rfl⟩ rfl ?_
    refine x_iload_n 1 DX12_counts_18 rfl rfl ?_
    refine x_bipush 13 DX12_counts_19 (by decide) ?_
    refine x_idiv DX12_counts_21 (by decide) ?_
    refine x_bipush 13 DX12_counts_22 (by decide) ?_
    refine x_imul DX12_counts_24 ?_
    refine x_istore_n 3 (lv' := [some (vR 40), some (vI (nI w)), some (vI (-1)), some (vI (((nI w) / 13) * 13))]) DX12_counts_25 rfl ⟨nlt rfl, nlt rfl⟩ rfl ?_
    have h13 : nI w / 13 * 13 = nI (w / 13 * 13) := by rw [show (13 : Int32) = nI 13 from rfl, pk_div (by omega) (by omega) (by omega), pk_mul]
    have h14 : nI w / 13 * 13 + 13 = nI (w / 13 * 13 + 13) := by rw [h13, show (13 : Int32) = nI 13 from rfl, nI_add]
    refine x_lv (lv' := [some (vR 40), some (vI (nI w)), some (vI (-1)), some (vI (nI (w / 13 * 13)))]) (by rw [h13]) ?_
    refine lp0 (W := fun i a => gX K none 2 0 0 jX12_counts 26 [some (vR 40), some (vI (nI w)), some (vI a), some (vI (nI i))] [] 0 0 ι ρ Λ _) (fun i a => imax a (ι 42 i)) (w / 13 * 13 + 13) (fun i a hi ih => ?_) (w / 13 * 13) (-1) (by omega) ?_
    · refine x_iload_n 3 DX12_counts_26 rfl rfl ?_
      refine x_iload_n 1 DX12_counts_27 rfl rfl ?_
      refine x_bipush 13 DX12_counts_28 (by decide) ?_
      refine x_idiv DX12_counts_30 (by decide) ?_
      refine x_bipush 13 DX12_counts_31 (by decide) ?_
      refine x_imul DX12_counts_33 ?_
      refine x_bipush 13 DX12_counts_34 (by decide) ?_
      refine x_iadd DX12_counts_36 ?_
      refine x_icmp_ge 57 DX12_counts_37 (by decide) (fun c_37 => False.elim (by rw [h14, nI_le1 (by omega) (by omega)] at c_37; omega)) (fun c_37 => ?_)
      refine x_iload_n 2 DX12_counts_40 rfl rfl ?_
      refine x_aload_n 0 DX12_counts_41 rfl rfl ?_
      refine x_getr 1 (some 42) DX12_counts_42 (Or.inr F12_13) rfl rfl (hF.1 40 1 42 rfl) ?_
      refine x_iload_n 3 DX12_counts_45 rfl rfl ?_
      refine x_iald (v := (ι 42 i)) i (nI_cl1 (by omega)) DX12_counts_46 rfl (gIn.fx hF (c := 42) (n := 52) rfl (gIn_nI (by omega) (by omega))) rfl ?_
      refine x_Se (av := [vI a, vI (ι 42 i)]) (rest := []) (st' := [vI (imax a (ι 42 i))]) 0 0 DX12_counts_47 L12_135 rfl rfl ⟨nle rfl, nle rfl, nle rfl⟩ ⟨rfl, nle rfl⟩ ⟨rfl, nle rfl⟩ (j_max K a (ι 42 i) ι ρ Λ) rfl ?_
      refine x_istore_n 2 (lv' := [some (vR 40), some (vI (nI w)), some (vI (imax a (ι 42 i))), some (vI (nI i))]) DX12_counts_50 rfl ⟨nlt rfl, nlt rfl⟩ rfl ?_
      refine x_iinc ((nI i) + 1) (lv' := [some (vR 40), some (vI (nI w)), some (vI (imax a (ι 42 i))), some (vI ((nI i) + 1))]) DX12_counts_51 rfl rfl (nlt rfl) rfl ?_
      refine x_goto 26 DX12_counts_54 (by decide) ?_
      refine x_lv (lv' := [some (vR 40), some (vI (nI w)), some (vI (imax a (ι 42 i))), some (vI (nI (i + 1)))]) (lvS (lvS (lvS (lvI (nI_1 i) rfl)))) ?_
      exact ih
    · rw [show w / 13 * 13 + 13 - w / 13 * 13 = 13 by omega]
      show gX K none 2 0 0 jX12_counts 26 [some (vR 40), some (vI (nI w)), some (vI (sMost (ι 42) (w / 13 * 13))), some (vI (nI (w / 13 * 13 + 13)))] [] 0 0 ι ρ Λ _
      refine x_iload_n 3 DX12_counts_26 rfl rfl ?_
      refine x_iload_n 1 DX12_counts_27 rfl rfl ?_
      refine x_bipush 13 DX12_counts_28 (by decide) ?_
      refine x_idiv DX12_counts_30 (by decide) ?_
      refine x_bipush 13 DX12_counts_31 (by decide) ?_
      refine x_imul DX12_counts_33 ?_
      refine x_bipush 13 DX12_counts_34 (by decide) ?_
      refine x_iadd DX12_counts_36 ?_
      refine x_icmp_ge 57 DX12_counts_37 (by decide) (fun c_37 => ?_) (fun c_37 => False.elim (c_37 (by rw [h14]; exact nI_le (Nat.le_refl _) (by omega))))
      refine x_iload_n 2 DX12_counts_57 rfl rfl ?_
      refine x_if_ge 65 DX12_counts_58 (by decide) (fun c_58 => ?_) (fun c_58 => ?_)
      · refine x_iload_n 2 DX12_counts_65 rfl rfl ?_
        exact x_ireturn DX12_counts_66 rfl ⟨by grind [sCounts, sMost], rfl, rfl, rfl⟩
      · refine x_iconst 5 DX12_counts_61 (by decide) ?_
        refine x_goto 66 DX12_counts_62 (by decide) ?_
        exact x_ireturn DX12_counts_66 rfl ⟨by grind [sCounts, sMost], rfl, rfl, rfl⟩
  · refine x_aload_n 0 DX12_counts_9 rfl rfl ?_
    refine x_getr 1 (some 42) DX12_counts_10 (Or.inr F12_13) rfl rfl (hF.1 40 1 42 rfl) ?_
    refine x_iload_n 1 DX12_counts_13 rfl rfl ?_
    refine x_iald (v := (ι 42 w)) w (nI_cl1 (by omega)) DX12_counts_14 rfl (gIn.fx hF (c := 42) (n := 52) rfl (gIn_nI (by omega) (by omega))) rfl ?_
    exact x_ireturn DX12_counts_15 rfl ⟨by grind [sCounts, sMost], rfl, rfl, rfl⟩
theorem m_counts (K : gK) (w : Int32) (ι : gIm) (ρ : gRm) (Λ : gLm) (hF : gFix ρ Λ) (hw : gIn w 52) : gCe K 2 0 0 jX12_counts [vR 40, vI w] ι ρ Λ (some (vI (sCounts (ι 42) w.toNatClampNeg))) ι ρ Λ := by
  have h := m_counts0 K w.toNatClampNeg ι ρ Λ hF hw.2
  rw [← hw.nI] at h
  exact h
theorem m_rainOf (K : gK) (w : Int32) (ι : gIm) (ρ : gRm) (Λ : gLm) (hF : gFix ρ Λ) : gCe K 3 0 0 jX12_rainOf [vR 40, vI w] ι ρ Λ (some (vI (rs (cWeek w) (sCounts (ι 42) w.toNatClampNeg)))) (rsM (cWeek w) 41 ι ι) ρ Λ := by
  refine gC_of (by decide) (nle rfl) ?_
  refine x_iload_n 1 DX12_rainOf_0 rfl rfl ?_
  refine x_bipush 52 DX12_rainOf_1 (by decide) ?_
  refine x_Se (av := [vI w, vI 52]) (rest := []) (st' := [vI (b2i (0 ≤ w ∧ w < 52))]) 0 0 DX12_rainOf_3 L12_124 rfl rfl ⟨nle rfl, nle rfl, nle rfl⟩ ⟨rfl, nle rfl⟩ ⟨rfl, nle rfl⟩ (m_isIn K w 52 ι ρ Λ) rfl ?_
  refine x_if_eq_b 17 DX12_rainOf_6 (by decide) (fun c_6 => ?_) (fun c_6 => ?_)
  · refine x_aload_n 0 DX12_rainOf_17 rfl rfl ?_
    refine x_iconst (-1) DX12_rainOf_18 (by decide) ?_
    refine x_Ve (ci := 12) (av := [vI (-1)]) (rest := []) (st' := [vI (-1)]) 0 0 DX12_rainOf_19 L12_120 rfl rfl rfl rfl rfl ⟨nle rfl, nle rfl, nle rfl⟩ ⟨rfl, nle rfl⟩ ⟨rfl, nle rfl⟩ (m_refuse K (-1) ι ρ Λ hF ⟨by decide, by decide⟩) rfl ?_
    refine x_nmι (fun ι19 e_ι19 => ?_)
    exact x_ireturn DX12_rainOf_22 rfl ⟨by grind [cWeek, rs, rsM], by grind [cWeek, rs, rsM], rfl, rfl⟩
  · refine x_aload_n 0 DX12_rainOf_9 rfl rfl ?_
    refine x_iload_n 1 DX12_rainOf_10 rfl rfl ?_
    refine x_Ve (ci := 12) (av := [vI w]) (rest := []) (st' := [vI (sCounts (ι 42) w.toNatClampNeg)]) 0 0 DX12_rainOf_11 L12_141 rfl rfl rfl rfl rfl ⟨nle rfl, nle rfl, nle rfl⟩ ⟨rfl, nle rfl⟩ ⟨rfl, nle rfl⟩ (m_counts K w ι ρ Λ hF (gIn_of 52 (by assumption) rfl)) rfl ?_
    refine x_goto 22 DX12_rainOf_14 (by decide) ?_
    exact x_ireturn DX12_rainOf_22 rfl ⟨by grind [cWeek, rs, rsM], by grind [cWeek, rs, rsM], rfl, rfl⟩
theorem m_wetOf (K : gK) (w : Int32) (ι : gIm) (ρ : gRm) (Λ : gLm) (hF : gFix ρ Λ) (hw : gIn w 52) : gCe K 3 0 0 jX12_wetOf [vR 40, vI w] ι ρ Λ (some (vI (sWet (ι 42) w.toNatClampNeg))) ι ρ Λ := by
  refine gC_of (by decide) (nle rfl) ?_
  refine x_aload_n 0 DX12_wetOf_0 rfl rfl ?_
  refine x_iload_n 1 DX12_wetOf_1 rfl rfl ?_
  refine x_Ve (ci := 12) (av := [vI w]) (rest := []) (st' := [vI (sCounts (ι 42) w.toNatClampNeg)]) 0 0 DX12_wetOf_2 L12_141 rfl rfl rfl rfl rfl ⟨nle rfl, nle rfl, nle rfl⟩ ⟨rfl, nle rfl⟩ ⟨rfl, nle rfl⟩ (m_counts K w ι ρ Λ hF hw) rfl ?_
  refine x_bipush 7 DX12_wetOf_5 (by decide) ?_
  refine x_icmp_lt 20 DX12_wetOf_7 (by decide) (fun c_7 => ?_) (fun c_7 => ?_)
  · refine x_aload_n 0 DX12_wetOf_20 rfl rfl ?_
    refine x_iload_n 1 DX12_wetOf_21 rfl rfl ?_
    refine x_Ve (ci := 12) (av := [vI w]) (rest := []) (st' := [vI (sCounts (ι 42) w.toNatClampNeg)]) 0 0 DX12_wetOf_22 L12_141 rfl rfl rfl rfl rfl ⟨nle rfl, nle rfl, nle rfl⟩ ⟨rfl, nle rfl⟩ ⟨rfl, nle rfl⟩ (m_counts K w ι ρ Λ hF hw) rfl ?_
    exact x_ireturn DX12_wetOf_25 rfl ⟨by grind [sWet], rfl, rfl, rfl⟩
  · refine x_iconst 2 DX12_wetOf_10 (by decide) ?_
    refine x_aload_n 0 DX12_wetOf_11 rfl rfl ?_
    refine x_iload_n 1 DX12_wetOf_12 rfl rfl ?_
    refine x_Ve (ci := 12) (av := [vI w]) (rest := [vI 2]) (st' := [vI (sCounts (ι 42) w.toNatClampNeg), vI 2]) 0 0 DX12_wetOf_13 L12_141 rfl rfl rfl rfl rfl ⟨nle rfl, nle rfl, nle rfl⟩ ⟨rfl, nle rfl⟩ ⟨rfl, nle rfl⟩ (m_counts K w ι ρ Λ hF hw) rfl ?_
    refine x_imul DX12_wetOf_16 ?_
    refine x_goto 25 DX12_wetOf_17 (by decide) ?_
    exact x_ireturn DX12_wetOf_25 rfl ⟨by grind [sWet], rfl, rfl, rfl⟩
theorem m_isHouse (K : gK) (h : Int32) (ι : gIm) (ρ : gRm) (Λ : gLm) (hF : gFix ρ Λ) : gCe K 2 0 0 jX12_isHouse [vR 40, vI h] ι ρ Λ (some (vI (b2i (0 ≤ h ∧ h < ι 40 4)))) ι ρ Λ := by
  refine gC_of (by decide) (nle rfl) ?_
  refine x_iload_n 1 DX12_isHouse_0 rfl rfl ?_
  refine x_aload_n 0 DX12_isHouse_1 rfl rfl ?_
  refine x_geti (v := (ι 40 4)) 4 DX12_isHouse_2 (Or.inl F12_144) rfl rfl rfl ?_
  refine x_Se (av := [vI h, vI (ι 40 4)]) (rest := []) (st' := [vI (b2i (0 ≤ h ∧ h < (ι 40 4)))]) 0 0 DX12_isHouse_5 L12_124 rfl rfl ⟨nle rfl, nle rfl, nle rfl⟩ ⟨rfl, nle rfl⟩ ⟨rfl, nle rfl⟩ (m_isIn K h (ι 40 4) ι ρ Λ) rfl ?_
  exact x_zreturn DX12_isHouse_8 rfl (b2i_01 _) ⟨by grind [], rfl, rfl, rfl⟩
theorem m_house (K : gK) (v n : Int32) (ι : gIm) (ρ : gRm) (Λ : gLm) (hF : gFix ρ Λ) (nh : Nat) (hH : ι 40 4 = nI nh) (hn : nh ≤ 24) : gCe K 2 0 0 jX12_house [vR 40, vI v, vI n] ι ρ Λ (some (vI (rs (cHouse v n (nI nh)) (nI nh)))) (rsM (cHouse v n (nI nh)) 41 ι (up2 (up2 (up2 (up2 (up2 ι 43 nh v) 44 nh n) 45 nh 5) 50 nh 1) 40 4 (nI nh + 1))) ρ Λ := by
  refine gC_of (by decide) (nle rfl) ?_
  refine x_iload_n 1 DX12_house_0 rfl rfl ?_
  refine x_iconst 4 DX12_house_1 (by decide) ?_
  refine x_Se (av := [vI v, vI 4]) (rest := []) (st' := [vI (b2i (0 ≤ v ∧ v < 4))]) 0 0 DX12_house_2 L12_124 rfl rfl ⟨nle rfl, nle rfl, nle rfl⟩ ⟨rfl, nle rfl⟩ ⟨rfl, nle rfl⟩ (m_isIn K v 4 ι ρ Λ) rfl ?_
  refine x_if_ne_b 14 DX12_house_5 (by decide) (fun c_5 => ?_) (fun c_5 => ?_)
  · refine x_iload_n 2 DX12_house_14 rfl rfl ?_
    refine x_iconst 1 DX12_house_15 (by decide) ?_
    refine x_icmp_ge 26 DX12_house_16 (by decide) (fun c_16 => ?_) (fun c_16 => ?_)
    · refine x_iload_n 2 DX12_house_26 rfl rfl ?_
      refine x_bipush 9 DX12_house_27 (by decide) ?_
      refine x_icmp_gt 41 DX12_house_29 (by decide) (fun c_29 => ?_) (fun c_29 => ?_)
      · refine x_aload_n 0 DX12_house_41 rfl rfl ?_
        refine x_bipush (-6) DX12_house_42 (by decide) ?_
        refine x_Ve (ci := 12) (av := [vI (-6)]) (rest := []) (st' := [vI (-6)]) 0 0 DX12_house_44 L12_120 rfl rfl rfl rfl rfl ⟨nle rfl, nle rfl, nle rfl⟩ ⟨rfl, nle rfl⟩ ⟨rfl, nle rfl⟩ (m_refuse K (-6) ι ρ Λ hF ⟨by decide, by decide⟩) rfl ?_
        refine x_nmι (fun ι44 e_ι44 => ?_)
        exact x_ireturn DX12_house_47 rfl ⟨by grind [cHouse, rs], by subst_vars; simp only [rsM, cHouse]; grind, rfl, rfl⟩
      · refine x_aload_n 0 DX12_house_32 rfl rfl ?_
        refine x_geti (v := (nI nh)) 4 DX12_house_33 (Or.inl F12_144) rfl rfl hH ?_
        refine x_bipush 24 DX12_house_36 (by decide) ?_
        refine x_icmp_ne 48 DX12_house_38 (by decide) (fun c_38 => ?_) (fun c_38 => ?_)
        · refine x_aload_n 0 DX12_house_48 rfl rfl ?_
          refine x_getr 10 (some 43) DX12_house_49 (Or.inr F12_16) rfl rfl (hF.1 40 10 43 rfl) ?_
          refine x_aload_n 0 DX12_house_52 rfl rfl ?_
          refine x_geti (v := (nI nh)) 4 DX12_house_53 (Or.inl F12_144) rfl rfl hH ?_
          refine x_iload_n 1 DX12_house_56 rfl rfl ?_
          refine x_iast nh (nI_cl1 (by omega)) DX12_house_57 rfl (gIn.fx hF (c := 43) (n := 24) rfl (gIn_nI (house_lt (by assumption) hn) (by omega))) (fun ι57 e_ι57 => ?_)
          refine x_aload_n 0 DX12_house_58 rfl rfl ?_
          refine x_getr 11 (some 44) DX12_house_59 (Or.inr F12_19) rfl rfl (hF.1 40 11 44 rfl) ?_
          refine x_aload_n 0 DX12_house_62 rfl rfl ?_
          refine x_geti (v := (nI nh)) 4 DX12_house_63 (Or.inl F12_144) rfl rfl ((rd1 e_ι57 (by decide)).trans hH) ?_
          refine x_iload_n 2 DX12_house_66 rfl rfl ?_
          refine x_iast nh (nI_cl1 (by omega)) DX12_house_67 rfl (gIn.fx hF (c := 44) (n := 24) rfl (gIn_nI (house_lt (by assumption) hn) (by omega))) (fun ι67 e_ι67 => ?_)
          refine x_aload_n 0 DX12_house_68 rfl rfl ?_
          refine x_getr 12 (some 45) DX12_house_69 (Or.inr F12_22) rfl rfl (hF.1 40 12 45 rfl) ?_
          refine x_aload_n 0 DX12_house_72 rfl rfl ?_
          refine x_geti (v := (nI nh)) 4 DX12_house_73 (Or.inl F12_144) rfl rfl (((rd1 e_ι67 (by decide)).trans (rd1 e_ι57 (by decide))).trans hH) ?_
          refine x_iconst 5 DX12_house_76 (by decide) ?_
          refine x_iast nh (nI_cl1 (by omega)) DX12_house_77 rfl (gIn.fx hF (c := 45) (n := 24) rfl (gIn_nI (house_lt (by assumption) hn) (by omega))) (fun ι77 e_ι77 => ?_)
          refine x_aload_n 0 DX12_house_78 rfl rfl ?_
          refine x_getr 17 (some 50) DX12_house_79 (Or.inr F12_37) rfl rfl (hF.1 40 17 50 rfl) ?_
          refine x_aload_n 0 DX12_house_82 rfl rfl ?_
          refine x_geti (v := (nI nh)) 4 DX12_house_83 (Or.inl F12_144) rfl rfl ((((rd1 e_ι77 (by decide)).trans (rd1 e_ι67 (by decide))).trans (rd1 e_ι57 (by decide))).trans hH) ?_
          refine x_iconst 1 DX12_house_86 (by decide) ?_
          refine x_zast nh (nI_cl1 (by omega)) DX12_house_87 rfl (gIn.fx hF (c := 50) (n := 24) rfl (gIn_nI (house_lt (by assumption) hn) (by omega))) (Or.inr rfl) (fun ι87 e_ι87 => ?_)
          refine x_aload_n 0 DX12_house_88 rfl rfl ?_
          refine x_dup DX12_house_89 ?_
          refine x_geti (v := (nI nh)) 4 DX12_house_90 (Or.inl F12_144) rfl rfl (((((rd1 e_ι87 (by decide)).trans (rd1 e_ι77 (by decide))).trans (rd1 e_ι67 (by decide))).trans (rd1 e_ι57 (by decide))).trans hH) ?_
          refine x_iconst 1 DX12_house_93 (by decide) ?_
          refine x_iadd DX12_house_94 ?_
          refine x_puti 4 DX12_house_95 F12_144 rfl (Or.inl rfl) rfl (fun ι95 e_ι95 => ?_)
          refine x_aload_n 0 DX12_house_98 rfl rfl ?_
          refine x_geti (v := ((nI nh) + 1)) 4 DX12_house_99 (Or.inl F12_144) rfl rfl (rdv e_ι95) ?_
          refine x_iconst 1 DX12_house_102 (by decide) ?_
          refine x_isub DX12_house_103 ?_
          exact x_ireturn DX12_house_104 rfl ⟨by rw [Int32.add_sub_cancel]; grind [cHouse, rs], by subst_vars; grind [rsM, cHouse], rfl, rfl⟩
        · refine x_aload_n 0 DX12_house_41 rfl rfl ?_
          refine x_bipush (-6) DX12_house_42 (by decide) ?_
          refine x_Ve (ci := 12) (av := [vI (-6)]) (rest := []) (st' := [vI (-6)]) 0 0 DX12_house_44 L12_120 rfl rfl rfl rfl rfl ⟨nle rfl, nle rfl, nle rfl⟩ ⟨rfl, nle rfl⟩ ⟨rfl, nle rfl⟩ (m_refuse K (-6) ι ρ Λ hF ⟨by decide, by decide⟩) rfl ?_
          refine x_nmι (fun ι44 e_ι44 => ?_)
          exact x_ireturn DX12_house_47 rfl ⟨by grind [cHouse, rs], by subst_vars; simp only [rsM, cHouse]; grind, rfl, rfl⟩
    · refine x_aload_n 0 DX12_house_19 rfl rfl ?_
      refine x_bipush (-4) DX12_house_20 (by decide) ?_
      refine x_Ve (ci := 12) (av := [vI (-4)]) (rest := []) (st' := [vI (-4)]) 0 0 DX12_house_22 L12_120 rfl rfl rfl rfl rfl ⟨nle rfl, nle rfl, nle rfl⟩ ⟨rfl, nle rfl⟩ ⟨rfl, nle rfl⟩ (m_refuse K (-4) ι ρ Λ hF ⟨by decide, by decide⟩) rfl ?_
      refine x_nmι (fun ι22 e_ι22 => ?_)
      exact x_ireturn DX12_house_25 rfl ⟨by grind [cHouse, rs], by subst_vars; simp only [rsM, cHouse]; grind, rfl, rfl⟩
  · refine x_aload_n 0 DX12_house_8 rfl rfl ?_
    refine x_iconst (-1) DX12_house_9 (by decide) ?_
    refine x_Ve (ci := 12) (av := [vI (-1)]) (rest := []) (st' := [vI (-1)]) 0 0 DX12_house_10 L12_120 rfl rfl rfl rfl rfl ⟨nle rfl, nle rfl, nle rfl⟩ ⟨rfl, nle rfl⟩ ⟨rfl, nle rfl⟩ (m_refuse K (-1) ι ρ Λ hF ⟨by decide, by decide⟩) rfl ?_
    refine x_nmι (fun ι10 e_ι10 => ?_)
    exact x_ireturn DX12_house_13 rfl ⟨by grind [cHouse, rs], by subst_vars; simp only [rsM, cHouse]; grind, rfl, rfl⟩
theorem m_set (K : gK) (h what v : Int32) (ι : gIm) (ρ : gRm) (Λ : gLm) (hF : gFix ρ Λ) (nh : Nat) (hH : ι 40 4 = nI nh) (hn : nh ≤ 24) : gCe K 3 0 0 jX12_set [vR 40, vI h, vI what, vI v] ι ρ Λ (some (vI (rs (cSet h what v (nI nh)) (if what = 0 then ι 44 h.toNatClampNeg else if what = 1 then ι 45 h.toNatClampNeg else if ι 50 h.toNatClampNeg = 0 then 0 else 1)))) (rsM (cSet h what v (nI nh)) 41 ι (if what = 0 then up2 ι 44 h.toNatClampNeg v else if what = 1 then up2 ι 45 h.toNatClampNeg v else up2 ι 50 h.toNatClampNeg (if v = 1 then 1 else 0))) ρ Λ := by
  refine gC_of (by decide) (nle rfl) ?_
  refine x_aload_n 0 DX12_set_0 rfl rfl ?_
  refine x_iload_n 1 DX12_set_1 rfl rfl ?_
  refine x_Ve (ci := 12) (av := [vI h]) (rest := []) (st' := [vI (b2i (0 ≤ h ∧ h < ι 40 4))]) 0 0 DX12_set_2 L12_148 rfl rfl rfl rfl rfl ⟨nle rfl, nle rfl, nle rfl⟩ ⟨rfl, nle rfl⟩ ⟨rfl, nle rfl⟩ (m_isHouse K h ι ρ Λ hF) rfl ?_
  refine x_if_ne_b 12 DX12_set_5 (by decide) (fun c_5 => ?_) (fun c_5 => ?_)
  · refine x_iload_n 2 DX12_set_12 rfl rfl ?_
    refine x_iconst 3 DX12_set_13 (by decide) ?_
    refine x_Se (av := [vI what, vI 3]) (rest := []) (st' := [vI (b2i (0 ≤ what ∧ what < 3))]) 0 0 DX12_set_14 L12_124 rfl rfl ⟨nle rfl, nle rfl, nle rfl⟩ ⟨rfl, nle rfl⟩ ⟨rfl, nle rfl⟩ (m_isIn K what 3 ι ρ Λ) rfl ?_
    refine x_if_ne_b 25 DX12_set_17 (by decide) (fun c_17 => ?_) (fun c_17 => ?_)
    · refine x_iload_n 3 DX12_set_25 rfl rfl ?_
      refine x_iload_n 2 DX12_set_26 rfl rfl ?_
      refine x_iconst 2 DX12_set_27 (by decide) ?_
      refine x_icmp_ne 35 DX12_set_28 (by decide) (fun c_28 => ?_) (fun c_28 => ?_)
      · refine x_iconst 1 DX12_set_35 (by decide) ?_
        refine x_iload_n 2 DX12_set_36 rfl rfl ?_
        refine x_iconst 2 DX12_set_37 (by decide) ?_
        refine x_icmp_ne 45 DX12_set_38 (by decide) (fun c_38 => ?_) (fun c_38 => False.elim (by grind))
        refine x_bipush 9 DX12_set_45 (by decide) ?_
        refine x_Se (av := [vI v, vI 1, vI 9]) (rest := []) (st' := [vI (wr v 1 9)]) 0 0 DX12_set_47 L12_128 rfl rfl ⟨nle rfl, nle rfl, nle rfl⟩ ⟨rfl, nle rfl⟩ ⟨rfl, nle rfl⟩ (m_wrong K v 1 9 ι ρ Λ) rfl ?_
        refine x_istore (lv' := [some (vR 40), some (vI h), some (vI what), some (vI v), some (vI (wr v 1 9)), none]) DX12_set_50 ⟨nlt rfl, nlt rfl⟩ rfl ?_
        refine x_iload DX12_set_52 rfl ?_
        refine x_if_eq 64 DX12_set_54 (by decide) (fun c_54 => ?_) (fun c_54 => ?_)
        · refine x_iload_n 2 DX12_set_64 rfl rfl ?_
          refine x_if_ne 77 DX12_set_65 (by decide) (fun c_65 => ?_) (fun c_65 => ?_)
          · refine x_iload_n 2 DX12_set_77 rfl rfl ?_
            refine x_iconst 1 DX12_set_78 (by decide) ?_
            refine x_icmp_ne 91 DX12_set_79 (by decide) (fun c_79 => ?_) (fun c_79 => ?_)
            · refine x_aload_n 0 DX12_set_91 rfl rfl ?_
              refine x_getr 17 (some 50) DX12_set_92 (Or.inr F12_37) rfl rfl (hF.1 40 17 50 rfl) ?_
              refine x_iload_n 1 DX12_set_95 rfl rfl ?_
              refine x_zald (v := (ι 50 h.toNatClampNeg)) h.toNatClampNeg rfl DX12_set_96 rfl (gIn.fx hF (c := 50) (n := 24) rfl (gIn_nn (m := 24) (by rw [← hH]; assumption) hn (by omega))) rfl ?_
              refine x_if_eq 104 DX12_set_97 (by decide) (fun c_97 => ?_) (fun c_97 => ?_)
              · refine x_iconst 0 DX12_set_104 (by decide) ?_
                refine x_istore (lv' := [some (vR 40), some (vI h), some (vI what), some (vI v), some (vI (wr v 1 9)), some (vI 0)]) DX12_set_105 ⟨nlt rfl, nlt rfl⟩ rfl ?_
                refine x_iload_n 2 DX12_set_107 rfl rfl ?_
                refine x_if_ne 121 DX12_set_108 (by decide) (fun c_108 => ?_) (fun c_108 => False.elim (by grind))
                refine x_iload_n 2 DX12_set_121 rfl rfl ?_
                refine x_iconst 1 DX12_set_122 (by decide) ?_
                refine x_icmp_ne 136 DX12_set_123 (by decide) (fun c_123 => ?_) (fun c_123 => False.elim (by grind))
                refine x_aload_n 0 DX12_set_136 rfl rfl ?_
                refine x_getr 17 (some 50) DX12_set_137 (Or.inr F12_37) rfl rfl (hF.1 40 17 50 rfl) ?_
                refine x_iload_n 1 DX12_set_140 rfl rfl ?_
                refine x_iload_n 3 DX12_set_141 rfl rfl ?_
                refine x_iconst 1 DX12_set_142 (by decide) ?_
                refine x_icmp_ne 150 DX12_set_143 (by decide) (fun c_143 => ?_) (fun c_143 => ?_)
                · refine x_iconst 0 DX12_set_150 (by decide) ?_
                  refine x_zast h.toNatClampNeg rfl DX12_set_151 rfl (gIn.fx hF (c := 50) (n := 24) rfl (gIn_nn (m := 24) (by rw [← hH]; assumption) hn (by omega))) (Or.inl rfl) (fun ι151 e_ι151 => ?_)
                  refine x_iload DX12_set_152 rfl ?_
                  exact x_ireturn DX12_set_154 rfl ⟨by grind [cSet, rs], by grind [cSet, rsM, b2i], rfl, rfl⟩
                · refine x_iconst 1 DX12_set_146 (by decide) ?_
                  refine x_goto 151 DX12_set_147 (by decide) ?_
                  refine x_zast h.toNatClampNeg rfl DX12_set_151 rfl (gIn.fx hF (c := 50) (n := 24) rfl (gIn_nn (m := 24) (by rw [← hH]; assumption) hn (by omega))) (Or.inr rfl) (fun ι151 e_ι151 => ?_)
                  refine x_iload DX12_set_152 rfl ?_
                  exact x_ireturn DX12_set_154 rfl ⟨by grind [cSet, rs], by grind [cSet, rsM, b2i], rfl, rfl⟩
              · refine x_iconst 1 DX12_set_100 (by decide) ?_
                refine x_goto 105 DX12_set_101 (by decide) ?_
                refine x_istore (lv' := [some (vR 40), some (vI h), some (vI what), some (vI v), some (vI (wr v 1 9)), some (vI 1)]) DX12_set_105 ⟨nlt rfl, nlt rfl⟩ rfl ?_
                refine x_iload_n 2 DX12_set_107 rfl rfl ?_
                refine x_if_ne 121 DX12_set_108 (by decide) (fun c_108 => ?_) (fun c_108 => False.elim (by grind))
                refine x_iload_n 2 DX12_set_121 rfl rfl ?_
                refine x_iconst 1 DX12_set_122 (by decide) ?_
                refine x_icmp_ne 136 DX12_set_123 (by decide) (fun c_123 => ?_) (fun c_123 => False.elim (by grind))
                refine x_aload_n 0 DX12_set_136 rfl rfl ?_
                refine x_getr 17 (some 50) DX12_set_137 (Or.inr F12_37) rfl rfl (hF.1 40 17 50 rfl) ?_
                refine x_iload_n 1 DX12_set_140 rfl rfl ?_
                refine x_iload_n 3 DX12_set_141 rfl rfl ?_
                refine x_iconst 1 DX12_set_142 (by decide) ?_
                refine x_icmp_ne 150 DX12_set_143 (by decide) (fun c_143 => ?_) (fun c_143 => ?_)
                · refine x_iconst 0 DX12_set_150 (by decide) ?_
                  refine x_zast h.toNatClampNeg rfl DX12_set_151 rfl (gIn.fx hF (c := 50) (n := 24) rfl (gIn_nn (m := 24) (by rw [← hH]; assumption) hn (by omega))) (Or.inl rfl) (fun ι151 e_ι151 => ?_)
                  refine x_iload DX12_set_152 rfl ?_
                  exact x_ireturn DX12_set_154 rfl ⟨by grind [cSet, rs], by grind [cSet, rsM, b2i], rfl, rfl⟩
                · refine x_iconst 1 DX12_set_146 (by decide) ?_
                  refine x_goto 151 DX12_set_147 (by decide) ?_
                  refine x_zast h.toNatClampNeg rfl DX12_set_151 rfl (gIn.fx hF (c := 50) (n := 24) rfl (gIn_nn (m := 24) (by rw [← hH]; assumption) hn (by omega))) (Or.inr rfl) (fun ι151 e_ι151 => ?_)
                  refine x_iload DX12_set_152 rfl ?_
                  exact x_ireturn DX12_set_154 rfl ⟨by grind [cSet, rs], by grind [cSet, rsM, b2i], rfl, rfl⟩
            · refine x_aload_n 0 DX12_set_82 rfl rfl ?_
              refine x_getr 12 (some 45) DX12_set_83 (Or.inr F12_22) rfl rfl (hF.1 40 12 45 rfl) ?_
              refine x_iload_n 1 DX12_set_86 rfl rfl ?_
              refine x_iald (v := (ι 45 h.toNatClampNeg)) h.toNatClampNeg rfl DX12_set_87 rfl (gIn.fx hF (c := 45) (n := 24) rfl (gIn_nn (m := 24) (by rw [← hH]; assumption) hn (by omega))) rfl ?_
              refine x_goto 105 DX12_set_88 (by decide) ?_
              refine x_istore (lv' := [some (vR 40), some (vI h), some (vI what), some (vI v), some (vI (wr v 1 9)), some (vI (ι 45 h.toNatClampNeg))]) DX12_set_105 ⟨nlt rfl, nlt rfl⟩ rfl ?_
              refine x_iload_n 2 DX12_set_107 rfl rfl ?_
              refine x_if_ne 121 DX12_set_108 (by decide) (fun c_108 => ?_) (fun c_108 => False.elim (by grind))
              refine x_iload_n 2 DX12_set_121 rfl rfl ?_
              refine x_iconst 1 DX12_set_122 (by decide) ?_
              refine x_icmp_ne 136 DX12_set_123 (by decide) (fun c_123 => False.elim (by grind)) (fun c_123 => ?_)
              refine x_aload_n 0 DX12_set_126 rfl rfl ?_
              refine x_getr 12 (some 45) DX12_set_127 (Or.inr F12_22) rfl rfl (hF.1 40 12 45 rfl) ?_
              refine x_iload_n 1 DX12_set_130 rfl rfl ?_
              refine x_iload_n 3 DX12_set_131 rfl rfl ?_
              refine x_iast h.toNatClampNeg rfl DX12_set_132 rfl (gIn.fx hF (c := 45) (n := 24) rfl (gIn_nn (m := 24) (by rw [← hH]; assumption) hn (by omega))) (fun ι132 e_ι132 => ?_)
              refine x_goto 152 DX12_set_133 (by decide) ?_
              refine x_iload DX12_set_152 rfl ?_
              exact x_ireturn DX12_set_154 rfl ⟨by grind [cSet, rs], by grind [cSet, rsM, b2i], rfl, rfl⟩
          · refine x_aload_n 0 DX12_set_68 rfl rfl ?_
            refine x_getr 11 (some 44) DX12_set_69 (Or.inr F12_19) rfl rfl (hF.1 40 11 44 rfl) ?_
            refine x_iload_n 1 DX12_set_72 rfl rfl ?_
            refine x_iald (v := (ι 44 h.toNatClampNeg)) h.toNatClampNeg rfl DX12_set_73 rfl (gIn.fx hF (c := 44) (n := 24) rfl (gIn_nn (m := 24) (by rw [← hH]; assumption) hn (by omega))) rfl ?_
            refine x_goto 105 DX12_set_74 (by decide) ?_
            refine x_istore (lv' := [some (vR 40), some (vI h), some (vI what), some (vI v), some (vI (wr v 1 9)), some (vI (ι 44 h.toNatClampNeg))]) DX12_set_105 ⟨nlt rfl, nlt rfl⟩ rfl ?_
            refine x_iload_n 2 DX12_set_107 rfl rfl ?_
            refine x_if_ne 121 DX12_set_108 (by decide) (fun c_108 => False.elim (by grind)) (fun c_108 => ?_)
            refine x_aload_n 0 DX12_set_111 rfl rfl ?_
            refine x_getr 11 (some 44) DX12_set_112 (Or.inr F12_19) rfl rfl (hF.1 40 11 44 rfl) ?_
            refine x_iload_n 1 DX12_set_115 rfl rfl ?_
            refine x_iload_n 3 DX12_set_116 rfl rfl ?_
            refine x_iast h.toNatClampNeg rfl DX12_set_117 rfl (gIn.fx hF (c := 44) (n := 24) rfl (gIn_nn (m := 24) (by rw [← hH]; assumption) hn (by omega))) (fun ι117 e_ι117 => ?_)
            refine x_goto 152 DX12_set_118 (by decide) ?_
            refine x_iload DX12_set_152 rfl ?_
            exact x_ireturn DX12_set_154 rfl ⟨by grind [cSet, rs], by grind [cSet, rsM, b2i], rfl, rfl⟩
        · refine x_aload_n 0 DX12_set_57 rfl rfl ?_
          refine x_iload DX12_set_58 rfl ?_
          refine x_Ve (ci := 12) (av := [vI (wr v 1 9)]) (rest := []) (st' := [vI (wr v 1 9)]) 0 0 DX12_set_60 L12_120 rfl rfl rfl rfl rfl ⟨nle rfl, nle rfl, nle rfl⟩ ⟨rfl, nle rfl⟩ ⟨rfl, nle rfl⟩ (m_refuse K (wr v 1 9) ι ρ Λ hF (wr_in _ _ _ (by assumption))) rfl ?_
          refine x_nmι (fun ι60 e_ι60 => ?_)
          exact x_ireturn DX12_set_63 rfl ⟨by grind [cSet, rs], by grind [cSet, rsM, b2i], rfl, rfl⟩
      · refine x_iconst 0 DX12_set_31 (by decide) ?_
        refine x_goto 36 DX12_set_32 (by decide) ?_
        refine x_iload_n 2 DX12_set_36 rfl rfl ?_
        refine x_iconst 2 DX12_set_37 (by decide) ?_
        refine x_icmp_ne 45 DX12_set_38 (by decide) (fun c_38 => False.elim (by grind)) (fun c_38 => ?_)
        refine x_iconst 1 DX12_set_41 (by decide) ?_
        refine x_goto 47 DX12_set_42 (by decide) ?_
        refine x_Se (av := [vI v, vI 0, vI 1]) (rest := []) (st' := [vI (wr v 0 1)]) 0 0 DX12_set_47 L12_128 rfl rfl ⟨nle rfl, nle rfl, nle rfl⟩ ⟨rfl, nle rfl⟩ ⟨rfl, nle rfl⟩ (m_wrong K v 0 1 ι ρ Λ) rfl ?_
        refine x_istore (lv' := [some (vR 40), some (vI h), some (vI what), some (vI v), some (vI (wr v 0 1)), none]) DX12_set_50 ⟨nlt rfl, nlt rfl⟩ rfl ?_
        refine x_iload DX12_set_52 rfl ?_
        refine x_if_eq 64 DX12_set_54 (by decide) (fun c_54 => ?_) (fun c_54 => ?_)
        · refine x_iload_n 2 DX12_set_64 rfl rfl ?_
          refine x_if_ne 77 DX12_set_65 (by decide) (fun c_65 => ?_) (fun c_65 => False.elim (by grind))
          refine x_iload_n 2 DX12_set_77 rfl rfl ?_
          refine x_iconst 1 DX12_set_78 (by decide) ?_
          refine x_icmp_ne 91 DX12_set_79 (by decide) (fun c_79 => ?_) (fun c_79 => False.elim (by grind))
          refine x_aload_n 0 DX12_set_91 rfl rfl ?_
          refine x_getr 17 (some 50) DX12_set_92 (Or.inr F12_37) rfl rfl (hF.1 40 17 50 rfl) ?_
          refine x_iload_n 1 DX12_set_95 rfl rfl ?_
          refine x_zald (v := (ι 50 h.toNatClampNeg)) h.toNatClampNeg rfl DX12_set_96 rfl (gIn.fx hF (c := 50) (n := 24) rfl (gIn_nn (m := 24) (by rw [← hH]; assumption) hn (by omega))) rfl ?_
          refine x_if_eq 104 DX12_set_97 (by decide) (fun c_97 => ?_) (fun c_97 => ?_)
          · refine x_iconst 0 DX12_set_104 (by decide) ?_
            refine x_istore (lv' := [some (vR 40), some (vI h), some (vI what), some (vI v), some (vI (wr v 0 1)), some (vI 0)]) DX12_set_105 ⟨nlt rfl, nlt rfl⟩ rfl ?_
            refine x_iload_n 2 DX12_set_107 rfl rfl ?_
            refine x_if_ne 121 DX12_set_108 (by decide) (fun c_108 => ?_) (fun c_108 => False.elim (by grind))
            refine x_iload_n 2 DX12_set_121 rfl rfl ?_
            refine x_iconst 1 DX12_set_122 (by decide) ?_
            refine x_icmp_ne 136 DX12_set_123 (by decide) (fun c_123 => ?_) (fun c_123 => False.elim (by grind))
            refine x_aload_n 0 DX12_set_136 rfl rfl ?_
            refine x_getr 17 (some 50) DX12_set_137 (Or.inr F12_37) rfl rfl (hF.1 40 17 50 rfl) ?_
            refine x_iload_n 1 DX12_set_140 rfl rfl ?_
            refine x_iload_n 3 DX12_set_141 rfl rfl ?_
            refine x_iconst 1 DX12_set_142 (by decide) ?_
            refine x_icmp_ne 150 DX12_set_143 (by decide) (fun c_143 => ?_) (fun c_143 => ?_)
            · refine x_iconst 0 DX12_set_150 (by decide) ?_
              refine x_zast h.toNatClampNeg rfl DX12_set_151 rfl (gIn.fx hF (c := 50) (n := 24) rfl (gIn_nn (m := 24) (by rw [← hH]; assumption) hn (by omega))) (Or.inl rfl) (fun ι151 e_ι151 => ?_)
              refine x_iload DX12_set_152 rfl ?_
              exact x_ireturn DX12_set_154 rfl ⟨by grind [cSet, rs], by grind [cSet, rsM, b2i], rfl, rfl⟩
            · refine x_iconst 1 DX12_set_146 (by decide) ?_
              refine x_goto 151 DX12_set_147 (by decide) ?_
              refine x_zast h.toNatClampNeg rfl DX12_set_151 rfl (gIn.fx hF (c := 50) (n := 24) rfl (gIn_nn (m := 24) (by rw [← hH]; assumption) hn (by omega))) (Or.inr rfl) (fun ι151 e_ι151 => ?_)
              refine x_iload DX12_set_152 rfl ?_
              exact x_ireturn DX12_set_154 rfl ⟨by grind [cSet, rs], by grind [cSet, rsM, b2i], rfl, rfl⟩
          · refine x_iconst 1 DX12_set_100 (by decide) ?_
            refine x_goto 105 DX12_set_101 (by decide) ?_
            refine x_istore (lv' := [some (vR 40), some (vI h), some (vI what), some (vI v), some (vI (wr v 0 1)), some (vI 1)]) DX12_set_105 ⟨nlt rfl, nlt rfl⟩ rfl ?_
            refine x_iload_n 2 DX12_set_107 rfl rfl ?_
            refine x_if_ne 121 DX12_set_108 (by decide) (fun c_108 => ?_) (fun c_108 => False.elim (by grind))
            refine x_iload_n 2 DX12_set_121 rfl rfl ?_
            refine x_iconst 1 DX12_set_122 (by decide) ?_
            refine x_icmp_ne 136 DX12_set_123 (by decide) (fun c_123 => ?_) (fun c_123 => False.elim (by grind))
            refine x_aload_n 0 DX12_set_136 rfl rfl ?_
            refine x_getr 17 (some 50) DX12_set_137 (Or.inr F12_37) rfl rfl (hF.1 40 17 50 rfl) ?_
            refine x_iload_n 1 DX12_set_140 rfl rfl ?_
            refine x_iload_n 3 DX12_set_141 rfl rfl ?_
            refine x_iconst 1 DX12_set_142 (by decide) ?_
            refine x_icmp_ne 150 DX12_set_143 (by decide) (fun c_143 => ?_) (fun c_143 => ?_)
            · refine x_iconst 0 DX12_set_150 (by decide) ?_
              refine x_zast h.toNatClampNeg rfl DX12_set_151 rfl (gIn.fx hF (c := 50) (n := 24) rfl (gIn_nn (m := 24) (by rw [← hH]; assumption) hn (by omega))) (Or.inl rfl) (fun ι151 e_ι151 => ?_)
              refine x_iload DX12_set_152 rfl ?_
              exact x_ireturn DX12_set_154 rfl ⟨by grind [cSet, rs], by grind [cSet, rsM, b2i], rfl, rfl⟩
            · refine x_iconst 1 DX12_set_146 (by decide) ?_
              refine x_goto 151 DX12_set_147 (by decide) ?_
              refine x_zast h.toNatClampNeg rfl DX12_set_151 rfl (gIn.fx hF (c := 50) (n := 24) rfl (gIn_nn (m := 24) (by rw [← hH]; assumption) hn (by omega))) (Or.inr rfl) (fun ι151 e_ι151 => ?_)
              refine x_iload DX12_set_152 rfl ?_
              exact x_ireturn DX12_set_154 rfl ⟨by grind [cSet, rs], by grind [cSet, rsM, b2i], rfl, rfl⟩
        · refine x_aload_n 0 DX12_set_57 rfl rfl ?_
          refine x_iload DX12_set_58 rfl ?_
          refine x_Ve (ci := 12) (av := [vI (wr v 0 1)]) (rest := []) (st' := [vI (wr v 0 1)]) 0 0 DX12_set_60 L12_120 rfl rfl rfl rfl rfl ⟨nle rfl, nle rfl, nle rfl⟩ ⟨rfl, nle rfl⟩ ⟨rfl, nle rfl⟩ (m_refuse K (wr v 0 1) ι ρ Λ hF (wr_in _ _ _ (by assumption))) rfl ?_
          refine x_nmι (fun ι60 e_ι60 => ?_)
          exact x_ireturn DX12_set_63 rfl ⟨by grind [cSet, rs], by grind [cSet, rsM, b2i], rfl, rfl⟩
    · refine x_bipush (-2) DX12_set_20 (by decide) ?_
      refine x_goto 50 DX12_set_22 (by decide) ?_
      refine x_istore (lv' := [some (vR 40), some (vI h), some (vI what), some (vI v), some (vI (-2)), none]) DX12_set_50 ⟨nlt rfl, nlt rfl⟩ rfl ?_
      refine x_iload DX12_set_52 rfl ?_
      refine x_if_eq 64 DX12_set_54 (by decide) (fun h => absurd h (by decide)) (fun _ => ?_)
      refine x_aload_n 0 DX12_set_57 rfl rfl ?_
      refine x_iload DX12_set_58 rfl ?_
      refine x_Ve (ci := 12) (av := [vI (-2)]) (rest := []) (st' := [vI (-2)]) 0 0 DX12_set_60 L12_120 rfl rfl rfl rfl rfl ⟨nle rfl, nle rfl, nle rfl⟩ ⟨rfl, nle rfl⟩ ⟨rfl, nle rfl⟩ (m_refuse K (-2) ι ρ Λ hF ⟨by decide, by decide⟩) rfl ?_
      refine x_nmι (fun ι60 e_ι60 => ?_)
      exact x_ireturn DX12_set_63 rfl ⟨by grind [cSet, rs], by grind [cSet, rsM, b2i], rfl, rfl⟩
  · refine x_iconst (-1) DX12_set_8 (by decide) ?_
    refine x_goto 50 DX12_set_9 (by decide) ?_
    refine x_istore (lv' := [some (vR 40), some (vI h), some (vI what), some (vI v), some (vI (-1)), none]) DX12_set_50 ⟨nlt rfl, nlt rfl⟩ rfl ?_
    refine x_iload DX12_set_52 rfl ?_
    refine x_if_eq 64 DX12_set_54 (by decide) (fun h => absurd h (by decide)) (fun _ => ?_)
    refine x_aload_n 0 DX12_set_57 rfl rfl ?_
    refine x_iload DX12_set_58 rfl ?_
    refine x_Ve (ci := 12) (av := [vI (-1)]) (rest := []) (st' := [vI (-1)]) 0 0 DX12_set_60 L12_120 rfl rfl rfl rfl rfl ⟨nle rfl, nle rfl, nle rfl⟩ ⟨rfl, nle rfl⟩ ⟨rfl, nle rfl⟩ (m_refuse K (-1) ι ρ Λ hF ⟨by decide, by decide⟩) rfl ?_
    refine x_nmι (fun ι60 e_ι60 => ?_)
    exact x_ireturn DX12_set_63 rfl ⟨by grind [cSet, rs], by grind [cSet, rsM, b2i], rfl, rfl⟩
theorem m_bring (K : gK) (h f d : Int32) (ι : gIm) (ρ : gRm) (Λ : gLm) (hF : gFix ρ Λ) (nh : Nat) (hH : ι 40 4 = nI nh) (hn : nh ≤ 24) : gCe K 3 0 0 jX12_bring [vR 40, vI h, vI f, vI d] ι ρ Λ (some (vI (rs (cBring h f d (nI nh) (ι 50 h.toNatClampNeg) (ι 48 h.toNatClampNeg)) (f / 10)))) (rsM (cBring h f d (nI nh) (ι 50 h.toNatClampNeg) (ι 48 h.toNatClampNeg)) 41 ι (up2 (up2 (up2 ι 51 h.toNatClampNeg 1) 46 h.toNatClampNeg f) 47 h.toNatClampNeg d)) ρ Λ := by
  refine gC_of (by decide) (nle rfl) ?_
  refine x_aload_n 0 DX12_bring_0 rfl rfl ?_
  refine x_iload_n 1 DX12_bring_1 rfl rfl ?_
  refine x_Ve (ci := 12) (av := [vI h]) (rest := []) (st' := [vI (b2i (0 ≤ h ∧ h < ι 40 4))]) 0 0 DX12_bring_2 L12_148 rfl rfl rfl rfl rfl ⟨nle rfl, nle rfl, nle rfl⟩ ⟨rfl, nle rfl⟩ ⟨rfl, nle rfl⟩ (m_isHouse K h ι ρ Λ hF) rfl ?_
  refine x_if_ne_b 14 DX12_bring_5 (by decide) (fun c_5 => ?_) (fun c_5 => ?_)
  · refine x_aload_n 0 DX12_bring_14 rfl rfl ?_
    refine x_getr 17 (some 50) DX12_bring_15 (Or.inr F12_37) rfl rfl (hF.1 40 17 50 rfl) ?_
    refine x_iload_n 1 DX12_bring_18 rfl rfl ?_
    refine x_zald (v := (ι 50 h.toNatClampNeg)) h.toNatClampNeg rfl DX12_bring_19 rfl (gIn.fx hF (c := 50) (n := 24) rfl (gIn_nn (m := 24) (by rw [← hH]; assumption) hn (by omega))) rfl ?_
    refine x_if_eq 32 DX12_bring_20 (by decide) (fun c_20 => ?_) (fun c_20 => ?_)
    · refine x_aload_n 0 DX12_bring_32 rfl rfl ?_
      refine x_bipush (-3) DX12_bring_33 (by decide) ?_
      refine x_Ve (ci := 12) (av := [vI (-3)]) (rest := []) (st' := [vI (-3)]) 0 0 DX12_bring_35 L12_120 rfl rfl rfl rfl rfl ⟨nle rfl, nle rfl, nle rfl⟩ ⟨rfl, nle rfl⟩ ⟨rfl, nle rfl⟩ (m_refuse K (-3) ι ρ Λ hF ⟨by decide, by decide⟩) rfl ?_
      refine x_nmι (fun ι35 e_ι35 => ?_)
      exact x_ireturn DX12_bring_38 rfl ⟨by grind [cBring, rs], by grind [cBring, rsM], rfl, rfl⟩
    · refine x_aload_n 0 DX12_bring_23 rfl rfl ?_
      refine x_getr 15 (some 48) DX12_bring_24 (Or.inr F12_31) rfl rfl (hF.1 40 15 48 rfl) ?_
      refine x_iload_n 1 DX12_bring_27 rfl rfl ?_
      refine x_iald (v := (ι 48 h.toNatClampNeg)) h.toNatClampNeg rfl DX12_bring_28 rfl (gIn.fx hF (c := 48) (n := 24) rfl (gIn_nn (m := 24) (by rw [← hH]; assumption) hn (by omega))) rfl ?_
      refine x_if_le 39 DX12_bring_29 (by decide) (fun c_29 => ?_) (fun c_29 => ?_)
      · refine x_iload_n 2 DX12_bring_39 rfl rfl ?_
        refine x_if_lt 47 DX12_bring_40 (by decide) (fun c_40 => ?_) (fun c_40 => ?_)
        · refine x_aload_n 0 DX12_bring_47 rfl rfl ?_
          refine x_bipush (-4) DX12_bring_48 (by decide) ?_
          refine x_Ve (ci := 12) (av := [vI (-4)]) (rest := []) (st' := [vI (-4)]) 0 0 DX12_bring_50 L12_120 rfl rfl rfl rfl rfl ⟨nle rfl, nle rfl, nle rfl⟩ ⟨rfl, nle rfl⟩ ⟨rfl, nle rfl⟩ (m_refuse K (-4) ι ρ Λ hF ⟨by decide, by decide⟩) rfl ?_
          refine x_nmι (fun ι50 e_ι50 => ?_)
          exact x_ireturn DX12_bring_53 rfl ⟨by grind [cBring, rs], by grind [cBring, rsM], rfl, rfl⟩
        · refine x_iload_n 3 DX12_bring_43 rfl rfl ?_
          refine x_if_ge 54 DX12_bring_44 (by decide) (fun c_44 => ?_) (fun c_44 => ?_)
          · refine x_iload_n 2 DX12_bring_54 rfl rfl ?_
            refine x_sipush 2000 DX12_bring_55 (by decide) ?_
            refine x_icmp_gt 67 DX12_bring_58 (by decide) (fun c_58 => ?_) (fun c_58 => ?_)
            · refine x_aload_n 0 DX12_bring_67 rfl rfl ?_
              refine x_bipush (-6) DX12_bring_68 (by decide) ?_
              refine x_Ve (ci := 12) (av := [vI (-6)]) (rest := []) (st' := [vI (-6)]) 0 0 DX12_bring_70 L12_120 rfl rfl rfl rfl rfl ⟨nle rfl, nle rfl, nle rfl⟩ ⟨rfl, nle rfl⟩ ⟨rfl, nle rfl⟩ (m_refuse K (-6) ι ρ Λ hF ⟨by decide, by decide⟩) rfl ?_
              refine x_nmι (fun ι70 e_ι70 => ?_)
              exact x_ireturn DX12_bring_73 rfl ⟨by grind [cBring, rs], by grind [cBring, rsM], rfl, rfl⟩
            · refine x_iload_n 3 DX12_bring_61 rfl rfl ?_
              refine x_bipush 20 DX12_bring_62 (by decide) ?_
              refine x_icmp_le 74 DX12_bring_64 (by decide) (fun c_64 => ?_) (fun c_64 => ?_)
              · refine x_aload_n 0 DX12_bring_74 rfl rfl ?_
                refine x_getr 18 (some 51) DX12_bring_75 (Or.inr F12_41) rfl rfl (hF.1 40 18 51 rfl) ?_
                refine x_iload_n 1 DX12_bring_78 rfl rfl ?_
                refine x_iconst 1 DX12_bring_79 (by decide) ?_
                refine x_zast h.toNatClampNeg rfl DX12_bring_80 rfl (gIn.fx hF (c := 51) (n := 24) rfl (gIn_nn (m := 24) (by rw [← hH]; assumption) hn (by omega))) (Or.inr rfl) (fun ι80 e_ι80 => ?_)
                refine x_aload_n 0 DX12_bring_81 rfl rfl ?_
                refine x_getr 13 (some 46) DX12_bring_82 (Or.inr F12_25) rfl rfl (hF.1 40 13 46 rfl) ?_
                refine x_iload_n 1 DX12_bring_85 rfl rfl ?_
                refine x_iload_n 2 DX12_bring_86 rfl rfl ?_
                refine x_iast h.toNatClampNeg rfl DX12_bring_87 rfl (gIn.fx hF (c := 46) (n := 24) rfl (gIn_nn (m := 24) (by rw [← hH]; assumption) hn (by omega))) (fun ι87 e_ι87 => ?_)
                refine x_aload_n 0 DX12_bring_88 rfl rfl ?_
                refine x_getr 14 (some 47) DX12_bring_89 (Or.inr F12_28) rfl rfl (hF.1 40 14 47 rfl) ?_
                refine x_iload_n 1 DX12_bring_92 rfl rfl ?_
                refine x_iload_n 3 DX12_bring_93 rfl rfl ?_
                refine x_iast h.toNatClampNeg rfl DX12_bring_94 rfl (gIn.fx hF (c := 47) (n := 24) rfl (gIn_nn (m := 24) (by rw [← hH]; assumption) hn (by omega))) (fun ι94 e_ι94 => ?_)
                refine x_iload_n 2 DX12_bring_95 rfl rfl ?_
                refine x_bipush 10 DX12_bring_96 (by decide) ?_
                refine x_idiv DX12_bring_98 (by decide) ?_
                exact x_ireturn DX12_bring_99 rfl ⟨by grind [cBring, rs], by grind [cBring, rsM], rfl, rfl⟩
              · refine x_aload_n 0 DX12_bring_67 rfl rfl ?_
                refine x_bipush (-6) DX12_bring_68 (by decide) ?_
                refine x_Ve (ci := 12) (av := [vI (-6)]) (rest := []) (st' := [vI (-6)]) 0 0 DX12_bring_70 L12_120 rfl rfl rfl rfl rfl ⟨nle rfl, nle rfl, nle rfl⟩ ⟨rfl, nle rfl⟩ ⟨rfl, nle rfl⟩ (m_refuse K (-6) ι ρ Λ hF ⟨by decide, by decide⟩) rfl ?_
                refine x_nmι (fun ι70 e_ι70 => ?_)
                exact x_ireturn DX12_bring_73 rfl ⟨by grind [cBring, rs], by grind [cBring, rsM], rfl, rfl⟩
          · refine x_aload_n 0 DX12_bring_47 rfl rfl ?_
            refine x_bipush (-4) DX12_bring_48 (by decide) ?_
            refine x_Ve (ci := 12) (av := [vI (-4)]) (rest := []) (st' := [vI (-4)]) 0 0 DX12_bring_50 L12_120 rfl rfl rfl rfl rfl ⟨nle rfl, nle rfl, nle rfl⟩ ⟨rfl, nle rfl⟩ ⟨rfl, nle rfl⟩ (m_refuse K (-4) ι ρ Λ hF ⟨by decide, by decide⟩) rfl ?_
            refine x_nmι (fun ι50 e_ι50 => ?_)
            exact x_ireturn DX12_bring_53 rfl ⟨by grind [cBring, rs], by grind [cBring, rsM], rfl, rfl⟩
      · refine x_aload_n 0 DX12_bring_32 rfl rfl ?_
        refine x_bipush (-3) DX12_bring_33 (by decide) ?_
        refine x_Ve (ci := 12) (av := [vI (-3)]) (rest := []) (st' := [vI (-3)]) 0 0 DX12_bring_35 L12_120 rfl rfl rfl rfl rfl ⟨nle rfl, nle rfl, nle rfl⟩ ⟨rfl, nle rfl⟩ ⟨rfl, nle rfl⟩ (m_refuse K (-3) ι ρ Λ hF ⟨by decide, by decide⟩) rfl ?_
        refine x_nmι (fun ι35 e_ι35 => ?_)
        exact x_ireturn DX12_bring_38 rfl ⟨by grind [cBring, rs], by grind [cBring, rsM], rfl, rfl⟩
  · refine x_aload_n 0 DX12_bring_8 rfl rfl ?_
    refine x_iconst (-1) DX12_bring_9 (by decide) ?_
    refine x_Ve (ci := 12) (av := [vI (-1)]) (rest := []) (st' := [vI (-1)]) 0 0 DX12_bring_10 L12_120 rfl rfl rfl rfl rfl ⟨nle rfl, nle rfl, nle rfl⟩ ⟨rfl, nle rfl⟩ ⟨rfl, nle rfl⟩ (m_refuse K (-1) ι ρ Λ hF ⟨by decide, by decide⟩) rfl ?_
    refine x_nmι (fun ι10 e_ι10 => ?_)
    exact x_ireturn DX12_bring_13 rfl ⟨by grind [cBring, rs], by grind [cBring, rsM], rfl, rfl⟩
