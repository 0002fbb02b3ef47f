/-! the model, VII: till, broken, blame -/
theorem m_till (K : gK) (v : Int32) (ι : gIm) (ρ : gRm) (Λ : gLm) (hF : gFix ρ Λ) (hg : ∀ p, p < 6 → ¬ ι 59 p < 0 → gIn (ι 59 p) 200) (wk : Nat) (hW : ι 40 3 = nI wk) (hw : wk ≤ 52) : gCe K 5 0 0 jX12_till [vR 40, vI v] ι ρ Λ (some (vI (rs (wr v 0 2000) (sTill (sLet ι v) (sWet (ι 42)) wk (53 - wk) 0 0)))) (rsM (wr v 0 2000) 41 ι ι) ρ Λ := by
  refine gC_of (by decide) (nle rfl) ?_
  refine x_iload_n 1 DX12_till_0 rfl rfl ?_
  refine x_iconst 0 DX12_till_1 (by decide) ?_
  refine x_sipush 2000 DX12_till_2 (by decide) ?_
  refine x_Se (av := [vI v, vI 0, vI 2000]) (rest := []) (st' := [vI (wr v 0 2000)]) 0 0 DX12_till_5 L12_128 rfl rfl ⟨nle rfl, nle rfl, nle rfl⟩ ⟨rfl, nle rfl⟩ ⟨rfl, nle rfl⟩ (m_wrong K v 0 2000 ι ρ Λ) rfl ?_
  refine x_istore_n 2 (lv' := [some (vR 40), some (vI v), some (vI (wr v 0 2000)), none, none]) DX12_till_8 rfl ⟨nlt rfl, nlt rfl⟩ rfl ?_
  refine x_iload_n 2 DX12_till_9 rfl rfl ?_
  refine x_if_eq 19 DX12_till_10 (by decide) (fun c_10 => ?_) (fun c_10 => ?_)
  · refine x_iconst 0 DX12_till_19 (by decide) ?_
    refine x_istore_n 3 (lv' := [some (vR 40), some (vI v), some (vI (wr v 0 2000)), some (vI 0), none]) DX12_till_20 rfl ⟨nlt rfl, nlt rfl⟩ rfl ?_
    refine x_iconst 0 DX12_till_21 (by decide) ?_
    refine x_istore (lv' := [some (vR 40), some (vI v), some (vI (wr v 0 2000)), some (vI 0), some (vI 0)]) DX12_till_22 ⟨nlt rfl, nlt rfl⟩ rfl ?_
    have loop : ∀ (n k : Nat) (m : Int32), k + n = 53 - wk → (sTill (sLet ι v) (sWet (ι 42)) wk n k m) = (sTill (sLet ι v) (sWet (ι 42)) wk (53 - wk) 0 0) → gX K none 5 0 0 jX12_till 24 [some (vR 40), some (vI v), some (vI (wr v 0 2000)), some (vI m), some (vI (nI k))] [] 0 0 ι ρ Λ (fun r2 a b c => r2 = (some (vI (rs (wr v 0 2000) (sTill (sLet ι v) (sWet (ι 42)) wk (53 - wk) 0 0)))) ∧ a = (rsM (wr v 0 2000) 41 ι ι) ∧ b = ρ ∧ c = Λ) := by
      intro n
      induction n with
      | zero =>
        intro k m hk he
        refine x_iload DX12_till_24 rfl ?_
        refine x_bipush 52 DX12_till_26 (by decide) ?_
        refine x_aload_n 0 DX12_till_28 rfl rfl ?_
        refine x_geti (v := (nI wk)) 3 DX12_till_29 (Or.inl F12_165) rfl rfl hW ?_
        refine x_isub DX12_till_32 ?_
        refine x_icmp_gt 80 DX12_till_33 (by decide) (fun c_33 => ?_) (fun c_33 => False.elim (c_33 (by rw [show (52 : Int32) = nI 52 from rfl, pk_sub (by omega)]; exact nI_lt (by omega) (by omega))))
        refine x_bipush (-9) DX12_till_80 (by decide) ?_
        exact x_ireturn DX12_till_82 rfl ⟨by rw [rs, if_pos (by assumption), ← he]; rfl, by rw [rsM, if_pos (by assumption)], rfl, rfl⟩
      | succ n ih =>
        intro k m hk he
        rw [sTill] at he
        refine x_iload DX12_till_24 rfl ?_
        refine x_bipush 52 DX12_till_26 (by decide) ?_
        refine x_aload_n 0 DX12_till_28 rfl rfl ?_
        refine x_geti (v := (nI wk)) 3 DX12_till_29 (Or.inl F12_165) rfl rfl hW ?_
        refine x_isub DX12_till_32 ?_
        refine x_icmp_gt 80 DX12_till_33 (by decide) (fun c_33 => False.elim (by rw [show (52 : Int32) = nI 52 from rfl, pk_sub (by omega), nI_lt1 (by omega) (by omega)] at c_33; omega)) (fun c_33 => ?_)
        refine x_aload_n 0 DX12_till_36 rfl rfl ?_
        refine x_iload_n 1 DX12_till_37 rfl rfl ?_
        refine x_iload_n 3 DX12_till_38 rfl rfl ?_
        refine x_Ve (ci := 12) (av := [vI v, vI m]) (rest := []) (st' := [vI (sLet ι v m)]) 0 0 DX12_till_39 L12_203 rfl rfl rfl rfl rfl ⟨nle rfl, nle rfl, nle rfl⟩ ⟨rfl, nle rfl⟩ ⟨rfl, nle rfl⟩ (m_isLet K v m ι ρ Λ hF hg) rfl ?_
        refine x_if_ne 48 DX12_till_42 (by decide) (fun c_42 => ?_) (fun c_42 => ?_)
        · refine x_aload_n 0 DX12_till_48 rfl rfl ?_
          refine x_geti (v := (nI wk)) 3 DX12_till_49 (Or.inl F12_165) rfl rfl hW ?_
          refine x_iload DX12_till_52 rfl ?_
          refine x_iadd DX12_till_54 ?_
          refine x_bipush 52 DX12_till_55 (by decide) ?_
          refine x_icmp_ge 74 DX12_till_57 (by decide) (fun c_57 => ?_) (fun c_57 => ?_)
          · rw [nI_add, show (52 : Int32) = nI 52 from rfl, nI_le1 (by omega) (by omega)] at c_57
            refine x_iinc ((nI k) + 1) (lv' := [some (vR 40), some (vI v), some (vI (wr v 0 2000)), some (vI m), some (vI ((nI k) + 1))]) DX12_till_74 rfl rfl (nlt rfl) rfl ?_
            refine x_goto 24 DX12_till_77 (by decide) ?_
            refine x_lv (lv' := [some (vR 40), some (vI v), some (vI (wr v 0 2000)), some (vI m), some (vI (nI (k + 1)))]) (lvS (lvS (lvS (lvS (lvI (nI_1 k) rfl))))) ?_
            exact ih (k + 1) m (by omega) (by rw [if_neg (by assumption), if_neg (by first | omega | assumption)] at he; exact he)
          · rw [nI_add, show (52 : Int32) = nI 52 from rfl, nI_le1 (by omega) (by omega)] at c_57
            refine x_iload_n 3 DX12_till_60 rfl rfl ?_
            refine x_aload_n 0 DX12_till_61 rfl rfl ?_
            refine x_aload_n 0 DX12_till_62 rfl rfl ?_
            refine x_geti (v := (nI wk)) 3 DX12_till_63 (Or.inl F12_165) rfl rfl hW ?_
            refine x_iload DX12_till_66 rfl ?_
            refine x_iadd DX12_till_68 ?_
            have g := m_wetOf K (nI wk + nI k) ι ρ Λ hF (by rw [nI_add]; exact gIn_nI (by omega) (by omega))
            rw [show (nI wk + nI k).toNatClampNeg = wk + k by rw [nI_add]; exact nI_cl1 (by omega)] at g
            refine x_Ve (ci := 12) (av := [vI ((nI wk) + (nI k))]) (rest := [vI m]) (st' := [vI (sWet (ι 42) (wk + k)), vI m]) 0 0 DX12_till_69 L12_206 rfl rfl rfl rfl rfl ⟨nle rfl, nle rfl, nle rfl⟩ ⟨rfl, nle rfl⟩ ⟨rfl, nle rfl⟩ (g) rfl ?_
            refine x_iadd DX12_till_72 ?_
            refine x_istore_n 3 (lv' := [some (vR 40), some (vI v), some (vI (wr v 0 2000)), some (vI (m + (sWet (ι 42) (wk + k)))), some (vI (nI k))]) DX12_till_73 rfl ⟨nlt rfl, nlt rfl⟩ rfl ?_
            refine x_iinc ((nI k) + 1) (lv' := [some (vR 40), some (vI v), some (vI (wr v 0 2000)), some (vI (m + (sWet (ι 42) (wk + k)))), some (vI ((nI k) + 1))]) DX12_till_74 rfl rfl (nlt rfl) rfl ?_
            refine x_goto 24 DX12_till_77 (by decide) ?_
            refine x_lv (lv' := [some (vR 40), some (vI v), some (vI (wr v 0 2000)), some (vI (m + (sWet (ι 42) (wk + k)))), some (vI (nI (k + 1)))]) (lvS (lvS (lvS (lvS (lvI (nI_1 k) rfl))))) ?_
            exact ih (k + 1) (m + (sWet (ι 42) (wk + k))) (by omega) (by rw [if_neg (by assumption), if_pos (by first | omega | assumption)] at he; exact he)
        · refine x_iload DX12_till_45 rfl ?_
          exact x_ireturn DX12_till_47 rfl ⟨by rw [rs, if_pos (by assumption), ← he, if_pos (by assumption)], by rw [rsM, if_pos (by assumption)], rfl, rfl⟩
    refine x_lv (lv' := [some (vR 40), some (vI v), some (vI (wr v 0 2000)), some (vI 0), some (vI (nI 0))]) (lvS (lvS (lvS (lvS (lvI nI_0.symm rfl))))) ?_
    exact loop (53 - wk) 0 0 (by omega) rfl
  · refine x_aload_n 0 DX12_till_13 rfl rfl ?_
    refine x_iload_n 2 DX12_till_14 rfl rfl ?_
    refine x_Ve (ci := 12) (av := [vI (wr v 0 2000)]) (rest := []) (st' := [vI (wr v 0 2000)]) 0 0 DX12_till_15 L12_120 rfl rfl rfl rfl rfl ⟨nle rfl, nle rfl, nle rfl⟩ ⟨rfl, nle rfl⟩ ⟨rfl, nle rfl⟩ (m_refuse K (wr v 0 2000) ι ρ Λ hF (wr_in _ _ _ (by assumption))) rfl ?_
    refine x_nmι (fun ι15 e_ι15 => ?_)
    exact x_ireturn DX12_till_18 rfl ⟨by grind [rs], by grind [rsM], rfl, rfl⟩
theorem m_broken (K : gK) (i what : Int32) (ι : gIm) (ρ : gRm) (Λ : gLm) (hF : gFix ρ Λ) (nb : Nat) (hB : ι 40 7 = nI nb) (hb : nb ≤ 40) : gCe K 3 0 0 jX12_broken [vR 40, vI i, vI what] ι ρ Λ (some (vI (rs (cBroken what) (vBroken (ι 63) (nI nb) i what)))) (rsM (cBroken what) 41 ι ι) ρ Λ := by
  refine gC_of (by decide) (nle rfl) ?_
  refine x_iload_n 2 DX12_broken_0 rfl rfl ?_
  refine x_iconst 3 DX12_broken_1 (by decide) ?_
  refine x_Se (av := [vI what, vI 3]) (rest := []) (st' := [vI (b2i (0 ≤ what ∧ what < 3))]) 0 0 DX12_broken_2 L12_124 rfl rfl ⟨nle rfl, nle rfl, nle rfl⟩ ⟨rfl, nle rfl⟩ ⟨rfl, nle rfl⟩ (m_isIn K what 3 ι ρ Λ) rfl ?_
  refine x_if_ne_b 15 DX12_broken_5 (by decide) (fun c_5 => ?_) (fun c_5 => ?_)
  · refine x_iload_n 1 DX12_broken_15 rfl rfl ?_
    refine x_aload_n 0 DX12_broken_16 rfl rfl ?_
    refine x_geti (v := (nI nb)) 7 DX12_broken_17 (Or.inl F12_213) rfl rfl hB ?_
    refine x_Se (av := [vI i, vI (nI nb)]) (rest := []) (st' := [vI (b2i (0 ≤ i ∧ i < (nI nb)))]) 0 0 DX12_broken_20 L12_124 rfl rfl ⟨nle rfl, nle rfl, nle rfl⟩ ⟨rfl, nle rfl⟩ ⟨rfl, nle rfl⟩ (m_isIn K i (nI nb) ι ρ Λ) rfl ?_
    refine x_if_eq_b 39 DX12_broken_23 (by decide) (fun c_23 => ?_) (fun c_23 => ?_)
    · refine x_bipush (-9) DX12_broken_39 (by decide) ?_
      exact x_ireturn DX12_broken_41 rfl ⟨by grind [cBroken, rs, vBroken], by grind [cBroken, rsM], rfl, rfl⟩
    · refine x_aload_n 0 DX12_broken_26 rfl rfl ?_
      refine x_getr 30 (some 63) DX12_broken_27 (Or.inr F12_77) rfl rfl (hF.1 40 30 63 rfl) ?_
      refine x_iconst 3 DX12_broken_30 (by decide) ?_
      refine x_iload_n 1 DX12_broken_31 rfl rfl ?_
      refine x_imul DX12_broken_32 ?_
      refine x_iload_n 2 DX12_broken_33 rfl rfl ?_
      refine x_iadd DX12_broken_34 ?_
      refine x_iald (v := (ι 63 (3 * i.toNatClampNeg + what.toNatClampNeg))) (3 * i.toNatClampNeg + what.toNatClampNeg) (brk_nat (by assumption) (by assumption) hb) DX12_broken_35 rfl (gIn.fx hF (c := 63) (n := 120) rfl (brk_in (by assumption) (by assumption) hb)) rfl ?_
      refine x_goto 41 DX12_broken_36 (by decide) ?_
      exact x_ireturn DX12_broken_41 rfl ⟨by grind [cBroken, rs, vBroken], by grind [cBroken, rsM], rfl, rfl⟩
  · refine x_aload_n 0 DX12_broken_8 rfl rfl ?_
    refine x_bipush (-2) DX12_broken_9 (by decide) ?_
    refine x_Ve (ci := 12) (av := [vI (-2)]) (rest := []) (st' := [vI (-2)]) 0 0 DX12_broken_11 L12_120 rfl rfl rfl rfl rfl ⟨nle rfl, nle rfl, nle rfl⟩ ⟨rfl, nle rfl⟩ ⟨rfl, nle rfl⟩ (m_refuse K (-2) ι ρ Λ hF ⟨by decide, by decide⟩) rfl ?_
    refine x_nmι (fun ι11 e_ι11 => ?_)
    exact x_ireturn DX12_broken_14 rfl ⟨by grind [cBroken, rs, vBroken], by grind [cBroken, rsM], rfl, rfl⟩
theorem m_blame (K : gK) (i h : Int32) (ι : gIm) (ρ : gRm) (Λ : gLm) (hF : gFix ρ Λ) (nh : Nat) (hH : ι 40 4 = nI nh) (hn : nh ≤ 24) (nr : Nat) (hR : ι 40 5 = nI nr) (hr : nr ≤ 200) (nb : Nat) (hB : ι 40 7 = nI nb) (hb : nb ≤ 40) (hBl : ∀ i, i < nb → ∃ r, r < nr ∧ ι 63 (3 * i) = nI r ∧ ∀ k, k < 9 → sSm (ι 56) r k < nr ∧ ∃ q, q < nr ∧ ι 56 (3 * r + k / 3) = nI q ∧ ι 56 (3 * q + k % 3) = nI (sSm (ι 56) r k)) : gCe K 3 0 0 jX12_blame [vR 40, vI i, vI h] ι ρ Λ (some (vI (rs (cTwo i (nI nb) h (nI nh)) (sBlame (ι 53) (ι 56) (ι 57) (ι 63 (3 * i.toNatClampNeg)).toNatClampNeg h)))) (rsM (cTwo i (nI nb) h (nI nh)) 41 ι (mSmalls ι (ι 63 (3 * i.toNatClampNeg)).toNatClampNeg 9)) ρ Λ := by
  refine gC_of (by decide) (nle rfl) ?_
  refine x_iload_n 1 DX12_blame_0 rfl rfl ?_
  refine x_aload_n 0 DX12_blame_1 rfl rfl ?_
  refine x_geti (v := (nI nb)) 7 DX12_blame_2 (Or.inl F12_213) rfl rfl hB ?_
  refine x_Se (av := [vI i, vI (nI nb)]) (rest := []) (st' := [vI (b2i (0 ≤ i ∧ i < (nI nb)))]) 0 0 DX12_blame_5 L12_124 rfl rfl ⟨nle rfl, nle rfl, nle rfl⟩ ⟨rfl, nle rfl⟩ ⟨rfl, nle rfl⟩ (m_isIn K i (nI nb) ι ρ Λ) rfl ?_
  refine x_if_eq_b 19 DX12_blame_8 (by decide) (fun c_8 => ?_) (fun c_8 => ?_)
  · refine x_aload_n 0 DX12_blame_19 rfl rfl ?_
    refine x_iconst (-1) DX12_blame_20 (by decide) ?_
    refine x_Ve (ci := 12) (av := [vI (-1)]) (rest := []) (st' := [vI (-1)]) 0 0 DX12_blame_21 L12_120 rfl rfl rfl rfl rfl ⟨nle rfl, nle rfl, nle rfl⟩ ⟨rfl, nle rfl⟩ ⟨rfl, nle rfl⟩ (m_refuse K (-1) ι ρ Λ hF ⟨by decide, by decide⟩) rfl ?_
    refine x_nmι (fun ι21 e_ι21 => ?_)
    exact x_ireturn DX12_blame_24 rfl ⟨by grind [cTwo, rs], by grind [cTwo, rsM], rfl, rfl⟩
  · refine x_aload_n 0 DX12_blame_11 rfl rfl ?_
    refine x_iload_n 2 DX12_blame_12 rfl rfl ?_
    refine x_Ve (ci := 12) (av := [vI h]) (rest := []) (st' := [vI (b2i (0 ≤ h ∧ h < ι 40 4))]) 0 0 DX12_blame_13 L12_148 rfl rfl rfl rfl rfl ⟨nle rfl, nle rfl, nle rfl⟩ ⟨rfl, nle rfl⟩ ⟨rfl, nle rfl⟩ (m_isHouse K h ι ρ Λ hF) rfl ?_
    refine x_if_ne_b 25 DX12_blame_16 (by decide) (fun c_16 => ?_) (fun c_16 => ?_)
    · have hin : gIn i nb := gIn_nn (m := nb) (by assumption) (Nat.le_refl _) (by omega)
      obtain ⟨r, hrr, hr1, hSm⟩ := hBl _ hin.2
      have i3e : 3 * i = nI (3 * i.toNatClampNeg) := by rw [hin.nI, nI_cl1 (by have := hin.2; omega)]; exact i3_0 _
      have hin2 := hin.2
      refine x_aload_n 0 DX12_blame_25 rfl rfl ?_
      refine x_getr 30 (some 63) DX12_blame_26 (Or.inr F12_77) rfl rfl (hF.1 40 30 63 rfl) ?_
      refine x_iconst 3 DX12_blame_29 (by decide) ?_
      refine x_iload_n 1 DX12_blame_30 rfl rfl ?_
      refine x_imul DX12_blame_31 ?_
      refine x_iald (v := (nI r)) (3 * i.toNatClampNeg) (eq_nat (i3e) (by omega)) DX12_blame_32 rfl (gIn.fx hF (c := 63) (n := 120) rfl (eq_gin (i3e) (by omega) (by omega))) hr1 ?_
      refine x_istore_n 3 (lv' := [some (vR 40), some (vI i), some (vI h), some (vI (nI r)), none, none, none, none]) DX12_blame_33 rfl ⟨nlt rfl, nlt rfl⟩ rfl ?_
      refine x_bipush 9 DX12_blame_34 (by decide) ?_
      refine x_istore (lv' := [some (vR 40), some (vI i), some (vI h), some (vI (nI r)), some (vI 9), none, none, none]) DX12_blame_36 ⟨nlt rfl, nlt rfl⟩ rfl ?_
      refine x_iconst 0 DX12_blame_38 (by decide) ?_
      refine x_istore (lv' := [some (vR 40), some (vI i), some (vI h), some (vI (nI r)), some (vI 9), some (vI 0), none, none]) DX12_blame_39 ⟨nlt rfl, nlt rfl⟩ rfl ?_
      refine x_lv (lv' := [some (vR 40), some (vI i), some (vI h), some (vI (nI r)), some (vI (sLeast (ι 53) (ι 56) r 0)), some (vI (nI 0)), none, none]) (lvS (lvS (lvS (lvS (lvI rfl (lvI nI_0.symm rfl)))))) ?_
      refine lpn (W := fun k => ∀ z, z = mSmalls ι r k → gX K none 3 0 0 jX12_blame 41 [some (vR 40), some (vI i), some (vI h), some (vI (nI r)), some (vI (sLeast (ι 53) (ι 56) r k)), some (vI (nI k)), none, none] [] 0 0 z ρ Λ _) 9 (fun k hk ih z hz => ?_) 0 (by omega) ?_ _ (by rw [mSmalls, fil_0, va_up_id])
      · obtain ⟨hs1, q, hq, hq1, hq2⟩ := hSm k hk
        have e56 : z 56 = ι 56 := by rw [hz, mSmalls, va_up_ne _ _ (by decide)]
        have e53 : z 53 = ι 53 := by rw [hz, mSmalls, va_up_ne _ _ (by decide)]
        have d3 : nI k / 3 = nI (k / 3) := by rw [show (3 : Int32) = nI 3 from rfl, pk_div (by omega) (by omega) (by omega)]
        have m3 : nI k - nI k / 3 * 3 = nI (k % 3) := by rw [show (3 : Int32) = nI 3 from rfl, pk_rem (by omega) (by omega) (by omega)]
        refine x_iload DX12_blame_41 rfl ?_
        refine x_bipush 9 DX12_blame_43 (by decide) ?_
        refine x_icmp_ge 105 DX12_blame_45 (by decide) (fun c_45 => False.elim (by rw [show (9 : Int32) = nI 9 from rfl, nI_le1 (by omega) (by omega)] at c_45; omega)) (fun c_45 => ?_)
        refine x_aload_n 0 DX12_blame_48 rfl rfl ?_
        refine x_getr 32 (some 65) DX12_blame_49 (Or.inr F12_83) rfl rfl (hF.1 40 32 65 rfl) ?_
        refine x_iload DX12_blame_52 rfl ?_
        refine x_aload_n 0 DX12_blame_54 rfl rfl ?_
        refine x_getr 23 (some 56) DX12_blame_55 (Or.inr F12_56) rfl rfl (hF.1 40 23 56 rfl) ?_
        refine x_iconst 3 DX12_blame_58 (by decide) ?_
        refine x_aload_n 0 DX12_blame_59 rfl rfl ?_
        refine x_getr 23 (some 56) DX12_blame_60 (Or.inr F12_56) rfl rfl (hF.1 40 23 56 rfl) ?_
        refine x_iconst 3 DX12_blame_63 (by decide) ?_
        refine x_iload_n 3 DX12_blame_64 rfl rfl ?_
        refine x_imul DX12_blame_65 ?_
        refine x_iload DX12_blame_66 rfl ?_
        refine x_iconst 3 DX12_blame_68 (by decide) ?_
        refine x_idiv DX12_blame_69 (by decide) ?_
        refine x_iadd DX12_blame_70 ?_
        refine x_iald (v := (nI q)) (3 * r + k / 3) (eq_nat (by rw [d3]; exact i3_i r (k / 3)) (by omega)) DX12_blame_71 rfl (gIn.fx hF (c := 56) (n := 600) rfl (eq_gin (by rw [d3]; exact i3_i r (k / 3)) (by omega) (by omega))) (by rw [e56]; exact hq1) ?_
        refine x_imul DX12_blame_72 ?_
        refine x_iload DX12_blame_73 rfl ?_
        refine x_iconst 3 DX12_blame_75 (by decide) ?_
        refine x_irem DX12_blame_76 (by decide) ?_
        refine x_iadd DX12_blame_77 ?_
        refine x_iald (v := (nI (sSm (ι 56) r k))) (3 * q + k % 3) (eq_nat (by rw [m3]; exact i3_i q (k % 3)) (by omega)) DX12_blame_78 rfl (gIn.fx hF (c := 56) (n := 600) rfl (eq_gin (by rw [m3]; exact i3_i q (k % 3)) (by omega) (by omega))) (by rw [e56]; exact hq2) ?_
        refine x_iast k (nI_cl1 (by omega)) DX12_blame_79 rfl (gIn.fx hF (c := 65) (n := 9) rfl (gIn_nI (by omega) (by omega))) (fun ι79 e_ι79 => ?_)
        refine x_iload DX12_blame_80 rfl ?_
        refine x_aload_n 0 DX12_blame_82 rfl rfl ?_
        refine x_getr 20 (some 53) DX12_blame_83 (Or.inr F12_47) rfl rfl (hF.1 40 20 53 rfl) ?_
        refine x_aload_n 0 DX12_blame_86 rfl rfl ?_
        refine x_getr 32 (some 65) DX12_blame_87 (Or.inr F12_83) rfl rfl (hF.1 40 32 65 rfl) ?_
        refine x_iload DX12_blame_90 rfl ?_
        refine x_iald (v := (nI (sSm (ι 56) r k))) k (nI_cl1 (by omega)) DX12_blame_92 rfl (gIn.fx hF (c := 65) (n := 9) rfl (gIn_nI (by omega) (by omega))) (rdv e_ι79) ?_
        refine x_iald (v := (z 53 (sSm (ι 56) r k))) (sSm (ι 56) r k) (nI_cl1 (by omega)) DX12_blame_93 rfl (gIn.fx hF (c := 53) (n := 200) rfl (gIn_nI (by omega) (by omega))) (rd1 e_ι79 (by decide)) ?_
        refine x_Se (av := [vI (sLeast (ι 53) (ι 56) r k), vI (z 53 (sSm (ι 56) r k))]) (rest := []) (st' := [vI (imin (sLeast (ι 53) (ι 56) r k) (z 53 (sSm (ι 56) r k)))]) 0 0 DX12_blame_94 L12_178 rfl rfl ⟨nle rfl, nle rfl, nle rfl⟩ ⟨rfl, nle rfl⟩ ⟨rfl, nle rfl⟩ (j_min K (sLeast (ι 53) (ι 56) r k) (z 53 (sSm (ι 56) r k)) ι79 ρ Λ) rfl ?_
        refine x_istore (lv' := [some (vR 40), some (vI i), some (vI h), some (vI (nI r)), some (vI (imin (sLeast (ι 53) (ι 56) r k) (z 53 (sSm (ι 56) r k)))), some (vI (nI k)), none, none]) DX12_blame_97 ⟨nlt rfl, nlt rfl⟩ rfl ?_
        refine x_iinc ((nI k) + 1) (lv' := [some (vR 40), some (vI i), some (vI h), some (vI (nI r)), some (vI (imin (sLeast (ι 53) (ι 56) r k) (z 53 (sSm (ι 56) r k)))), some (vI ((nI k) + 1)), none, none]) DX12_blame_99 rfl rfl (nlt rfl) rfl ?_
        refine x_goto 41 DX12_blame_102 (by decide) ?_
        refine x_lv (lv' := [some (vR 40), some (vI i), some (vI h), some (vI (nI r)), some (vI (sLeast (ι 53) (ι 56) r (k + 1))), some (vI (nI (k + 1))), none, none]) (lvS (lvS (lvS (lvS (lvI (by rw [sLeast_s, e53]) (lvI (nI_1 k) (lvS (lvS rfl)))))))) ?_
        exact ih _ (by rw [e_ι79, hz]; exact up2_fil ι 65 k (fun k => nI (sSm (ι 56) r k)) (ι 65))
      · intro z hz
        have e56 : z 56 = ι 56 := by rw [hz, mSmalls, va_up_ne _ _ (by decide)]
        have e53 : z 53 = ι 53 := by rw [hz, mSmalls, va_up_ne _ _ (by decide)]
        have e57 : z 57 = ι 57 := by rw [hz, mSmalls, va_up_ne _ _ (by decide)]
        have e65 : ∀ k, k < 9 → z 65 k = nI (sSm (ι 56) r k) := fun k hk => by rw [hz, mSmalls, va_up_self]; simp only [fil]; rw [if_pos hk]
        refine x_iload DX12_blame_41 rfl ?_
        refine x_bipush 9 DX12_blame_43 (by decide) ?_
        refine x_icmp_ge 105 DX12_blame_45 (by decide) (fun c_45 => ?_) (fun c_45 => False.elim (c_45 (by decide)))
        refine x_iconst 0 DX12_blame_105 (by decide) ?_
        refine x_istore (lv' := [some (vR 40), some (vI i), some (vI h), some (vI (nI r)), some (vI (sLeast (ι 53) (ι 56) r 9)), some (vI 0), none, none]) DX12_blame_106 ⟨nlt rfl, nlt rfl⟩ rfl ?_
        refine x_iconst 0 DX12_blame_108 (by decide) ?_
        refine x_istore (lv' := [some (vR 40), some (vI i), some (vI h), some (vI (nI r)), some (vI (sLeast (ι 53) (ι 56) r 9)), some (vI 0), some (vI 0), none]) DX12_blame_109 ⟨nlt rfl, nlt rfl⟩ rfl ?_
        refine x_lv (lv' := [some (vR 40), some (vI i), some (vI h), some (vI (nI r)), some (vI (sLeast (ι 53) (ι 56) r 9)), some (vI 0), some (vI (nI 0)), none]) (lvS (lvS (lvS (lvS (lvS (lvS (lvI nI_0.symm (lvS rfl)))))))) ?_
        refine lp0 (W := fun k a => gX K none 3 0 0 jX12_blame 111 [some (vR 40), some (vI i), some (vI h), some (vI (nI r)), some (vI (sLeast (ι 53) (ι 56) r 9)), some (vI a), some (vI (nI k)), none] [] 0 0 z ρ Λ _) (fun k a => fo (fun c a => a + sBl1 (ι 53) (ι 56) (ι 57) r (sLeast (ι 53) (ι 56) r 9) h k c) 3 0 a) 9 (fun k a hk ih => ?_) 0 0 (by omega) ?_
        · refine x_iload DX12_blame_111 rfl ?_
          refine x_bipush 9 DX12_blame_113 (by decide) ?_
          refine x_icmp_ge 209 DX12_blame_115 (by decide) (fun c_115 => False.elim (by rw [show (9 : Int32) = nI 9 from rfl, nI_le1 (by omega) (by omega)] at c_115; omega)) (fun c_115 => ?_)
          refine x_iconst 0 DX12_blame_118 (by decide) ?_
          refine x_istore (lv' := [some (vR 40), some (vI i), some (vI h), some (vI (nI r)), some (vI (sLeast (ι 53) (ι 56) r 9)), some (vI a), some (vI (nI k)), some (vI 0)]) DX12_blame_119 ⟨nlt rfl, nlt rfl⟩ rfl ?_
          obtain ⟨hs1, -⟩ := hSm k hk
          have ek := e65 k hk
          refine x_lv (lv' := [some (vR 40), some (vI i), some (vI h), some (vI (nI r)), some (vI (sLeast (ι 53) (ι 56) r 9)), some (vI a), some (vI (nI k)), some (vI (nI 0))]) (lvS (lvS (lvS (lvS (lvS (lvS (lvS (lvI nI_0.symm rfl)))))))) ?_
          refine lp0 (W := fun c a2 => gX K none 3 0 0 jX12_blame 121 [some (vR 40), some (vI i), some (vI h), some (vI (nI r)), some (vI (sLeast (ι 53) (ι 56) r 9)), some (vI a2), some (vI (nI k)), some (vI (nI c))] [] 0 0 z ρ Λ _) (fun c a2 => a2 + sBl1 (ι 53) (ι 56) (ι 57) r (sLeast (ι 53) (ι 56) r 9) h k c) 3 (fun c a2 hc ih2 => ?_) 0 a (by omega) ?_
          · refine x_iload DX12_blame_121 rfl ?_
            refine x_iconst 3 DX12_blame_123 (by decide) ?_
            refine x_icmp_ge 203 DX12_blame_124 (by decide) (fun c_124 => False.elim (by rw [show (3 : Int32) = nI 3 from rfl, nI_le1 (by omega) (by omega)] at c_124; omega)) (fun c_124 => ?_)
            refine x_iload DX12_blame_127 rfl ?_
            refine x_aload_n 0 DX12_blame_129 rfl rfl ?_
            refine x_getr 20 (some 53) DX12_blame_130 (Or.inr F12_47) rfl rfl (hF.1 40 20 53 rfl) ?_
            refine x_aload_n 0 DX12_blame_133 rfl rfl ?_
            refine x_getr 32 (some 65) DX12_blame_134 (Or.inr F12_83) rfl rfl (hF.1 40 32 65 rfl) ?_
            refine x_iload DX12_blame_137 rfl ?_
            refine x_iald (v := (nI (sSm (ι 56) r k))) k (nI_cl1 (by omega)) DX12_blame_139 rfl (gIn.fx hF (c := 65) (n := 9) rfl (gIn_nI (by omega) (by omega))) ek ?_
            refine x_iald (v := (ι 53 (sSm (ι 56) r k))) (sSm (ι 56) r k) (nI_cl1 (by omega)) DX12_blame_140 rfl (gIn.fx hF (c := 53) (n := 200) rfl (gIn_nI (by omega) (by omega))) (by rw [e53]) ?_
            refine x_iload DX12_blame_141 rfl ?_
            refine x_icmp_ne 193 DX12_blame_143 (by decide) (fun c_143 => ?_) (fun c_143 => ?_)
            · refine x_iconst 0 DX12_blame_193 (by decide) ?_
              refine x_iadd DX12_blame_194 ?_
              refine x_istore (lv' := [some (vR 40), some (vI i), some (vI h), some (vI (nI r)), some (vI (sLeast (ι 53) (ι 56) r 9)), some (vI (a2 + 0)), some (vI (nI k)), some (vI (nI c))]) DX12_blame_195 ⟨nlt rfl, nlt rfl⟩ rfl ?_
              refine x_iinc ((nI c) + 1) (lv' := [some (vR 40), some (vI i), some (vI h), some (vI (nI r)), some (vI (sLeast (ι 53) (ι 56) r 9)), some (vI (a2 + 0)), some (vI (nI k)), some (vI ((nI c) + 1))]) DX12_blame_197 rfl rfl (nlt rfl) rfl ?_
              refine x_goto 121 DX12_blame_200 (by decide) ?_
              refine x_lv (lv' := [some (vR 40), some (vI i), some (vI h), some (vI (nI r)), some (vI (sLeast (ι 53) (ι 56) r 9)), some (vI (a2 + sBl1 (ι 53) (ι 56) (ι 57) r (sLeast (ι 53) (ι 56) r 9) h k c)), some (vI (nI k)), some (vI (nI (c + 1)))]) (lvS (lvS (lvS (lvS (lvS (lvI (by grind [sBl1]) (lvS (lvI (nI_1 c) rfl)))))))) ?_
              exact ih2
            · refine x_aload_n 0 DX12_blame_146 rfl rfl ?_
              refine x_getr 23 (some 56) DX12_blame_147 (Or.inr F12_56) rfl rfl (hF.1 40 23 56 rfl) ?_
              refine x_iconst 3 DX12_blame_150 (by decide) ?_
              refine x_aload_n 0 DX12_blame_151 rfl rfl ?_
              refine x_getr 32 (some 65) DX12_blame_152 (Or.inr F12_83) rfl rfl (hF.1 40 32 65 rfl) ?_
              refine x_iload DX12_blame_155 rfl ?_
              refine x_iald (v := (nI (sSm (ι 56) r k))) k (nI_cl1 (by omega)) DX12_blame_157 rfl (gIn.fx hF (c := 65) (n := 9) rfl (gIn_nI (by omega) (by omega))) ek ?_
              refine x_imul DX12_blame_158 ?_
              refine x_iload DX12_blame_159 rfl ?_
              refine x_iadd DX12_blame_161 ?_
              refine x_iald (v := (ι 56 (3 * (sSm (ι 56) r k) + c))) (3 * (sSm (ι 56) r k) + c) (eq_nat (i3_i (sSm (ι 56) r k) c) (by omega)) DX12_blame_162 rfl (gIn.fx hF (c := 56) (n := 600) rfl (eq_gin (i3_i (sSm (ι 56) r k) c) (by omega) (by omega))) (by rw [e56]) ?_
              refine x_iload_n 2 DX12_blame_163 rfl rfl ?_
              refine x_icmp_ne 193 DX12_blame_164 (by decide) (fun c_164 => ?_) (fun c_164 => ?_)
              · refine x_iconst 0 DX12_blame_193 (by decide) ?_
                refine x_iadd DX12_blame_194 ?_
                refine x_istore (lv' := [some (vR 40), some (vI i), some (vI h), some (vI (nI r)), some (vI (sLeast (ι 53) (ι 56) r 9)), some (vI (a2 + 0)), some (vI (nI k)), some (vI (nI c))]) DX12_blame_195 ⟨nlt rfl, nlt rfl⟩ rfl ?_
                refine x_iinc ((nI c) + 1) (lv' := [some (vR 40), some (vI i), some (vI h), some (vI (nI r)), some (vI (sLeast (ι 53) (ι 56) r 9)), some (vI (a2 + 0)), some (vI (nI k)), some (vI ((nI c) + 1))]) DX12_blame_197 rfl rfl (nlt rfl) rfl ?_
                refine x_goto 121 DX12_blame_200 (by decide) ?_
                refine x_lv (lv' := [some (vR 40), some (vI i), some (vI h), some (vI (nI r)), some (vI (sLeast (ι 53) (ι 56) r 9)), some (vI (a2 + sBl1 (ι 53) (ι 56) (ι 57) r (sLeast (ι 53) (ι 56) r 9) h k c)), some (vI (nI k)), some (vI (nI (c + 1)))]) (lvS (lvS (lvS (lvS (lvS (lvI (by grind [sBl1]) (lvS (lvI (nI_1 c) rfl)))))))) ?_
                exact ih2
              · refine x_aload_n 0 DX12_blame_167 rfl rfl ?_
                refine x_getr 24 (some 57) DX12_blame_168 (Or.inr F12_59) rfl rfl (hF.1 40 24 57 rfl) ?_
                refine x_iconst 3 DX12_blame_171 (by decide) ?_
                refine x_aload_n 0 DX12_blame_172 rfl rfl ?_
                refine x_getr 32 (some 65) DX12_blame_173 (Or.inr F12_83) rfl rfl (hF.1 40 32 65 rfl) ?_
                refine x_iload DX12_blame_176 rfl ?_
                refine x_iald (v := (nI (sSm (ι 56) r k))) k (nI_cl1 (by omega)) DX12_blame_178 rfl (gIn.fx hF (c := 65) (n := 9) rfl (gIn_nI (by omega) (by omega))) ek ?_
                refine x_imul DX12_blame_179 ?_
                refine x_iload DX12_blame_180 rfl ?_
                refine x_iadd DX12_blame_182 ?_
                refine x_iald (v := (ι 57 (3 * (sSm (ι 56) r k) + c))) (3 * (sSm (ι 56) r k) + c) (eq_nat (i3_i (sSm (ι 56) r k) c) (by omega)) DX12_blame_183 rfl (gIn.fx hF (c := 57) (n := 600) rfl (eq_gin (i3_i (sSm (ι 56) r k) c) (by omega) (by omega))) (by rw [e57]) ?_
                refine x_iload DX12_blame_184 rfl ?_
                refine x_icmp_ne 193 DX12_blame_186 (by decide) (fun c_186 => ?_) (fun c_186 => ?_)
                · refine x_iconst 0 DX12_blame_193 (by decide) ?_
                  refine x_iadd DX12_blame_194 ?_
                  refine x_istore (lv' := [some (vR 40), some (vI i), some (vI h), some (vI (nI r)), some (vI (sLeast (ι 53) (ι 56) r 9)), some (vI (a2 + 0)), some (vI (nI k)), some (vI (nI c))]) DX12_blame_195 ⟨nlt rfl, nlt rfl⟩ rfl ?_
                  refine x_iinc ((nI c) + 1) (lv' := [some (vR 40), some (vI i), some (vI h), some (vI (nI r)), some (vI (sLeast (ι 53) (ι 56) r 9)), some (vI (a2 + 0)), some (vI (nI k)), some (vI ((nI c) + 1))]) DX12_blame_197 rfl rfl (nlt rfl) rfl ?_
                  refine x_goto 121 DX12_blame_200 (by decide) ?_
                  refine x_lv (lv' := [some (vR 40), some (vI i), some (vI h), some (vI (nI r)), some (vI (sLeast (ι 53) (ι 56) r 9)), some (vI (a2 + sBl1 (ι 53) (ι 56) (ι 57) r (sLeast (ι 53) (ι 56) r 9) h k c)), some (vI (nI k)), some (vI (nI (c + 1)))]) (lvS (lvS (lvS (lvS (lvS (lvI (by grind [sBl1]) (lvS (lvI (nI_1 c) rfl)))))))) ?_
                  exact ih2
                · refine x_iconst 1 DX12_blame_189 (by decide) ?_
                  refine x_goto 194 DX12_blame_190 (by decide) ?_
                  refine x_iadd DX12_blame_194 ?_
                  refine x_istore (lv' := [some (vR 40), some (vI i), some (vI h), some (vI (nI r)), some (vI (sLeast (ι 53) (ι 56) r 9)), some (vI (a2 + 1)), some (vI (nI k)), some (vI (nI c))]) DX12_blame_195 ⟨nlt rfl, nlt rfl⟩ rfl ?_
                  refine x_iinc ((nI c) + 1) (lv' := [some (vR 40), some (vI i), some (vI h), some (vI (nI r)), some (vI (sLeast (ι 53) (ι 56) r 9)), some (vI (a2 + 1)), some (vI (nI k)), some (vI ((nI c) + 1))]) DX12_blame_197 rfl rfl (nlt rfl) rfl ?_
                  refine x_goto 121 DX12_blame_200 (by decide) ?_
                  refine x_lv (lv' := [some (vR 40), some (vI i), some (vI h), some (vI (nI r)), some (vI (sLeast (ι 53) (ι 56) r 9)), some (vI (a2 + sBl1 (ι 53) (ι 56) (ι 57) r (sLeast (ι 53) (ι 56) r 9) h k c)), some (vI (nI k)), some (vI (nI (c + 1)))]) (lvS (lvS (lvS (lvS (lvS (lvI (by grind [sBl1]) (lvS (lvI (nI_1 c) rfl)))))))) ?_
                  exact ih2
          · show gX K none 3 0 0 jX12_blame 121 [some (vR 40), some (vI i), some (vI h), some (vI (nI r)), some (vI (sLeast (ι 53) (ι 56) r 9)), some (vI (fo (fun c a => a + sBl1 (ι 53) (ι 56) (ι 57) r (sLeast (ι 53) (ι 56) r 9) h k c) 3 0 a)), some (vI (nI k)), some (vI (nI 3))] [] 0 0 z ρ Λ _
            refine x_iload DX12_blame_121 rfl ?_
            refine x_iconst 3 DX12_blame_123 (by decide) ?_
            refine x_icmp_ge 203 DX12_blame_124 (by decide) (fun c_124 => ?_) (fun c_124 => False.elim (c_124 (by decide)))
            refine x_iinc ((nI k) + 1) (lv' := [some (vR 40), some (vI i), some (vI h), some (vI (nI r)), some (vI (sLeast (ι 53) (ι 56) r 9)), some (vI (fo (fun c a => a + sBl1 (ι 53) (ι 56) (ι 57) r (sLeast (ι 53) (ι 56) r 9) h k c) 3 0 a)), some (vI ((nI k) + 1)), some (vI (nI 3))]) DX12_blame_203 rfl rfl (nlt rfl) rfl ?_
            refine x_goto 111 DX12_blame_206 (by decide) ?_
            refine x_lv (lv' := [some (vR 40), some (vI i), some (vI h), some (vI (nI r)), some (vI (sLeast (ι 53) (ι 56) r 9)), some (vI (fo (fun c a => a + sBl1 (ι 53) (ι 56) (ι 57) r (sLeast (ι 53) (ι 56) r 9) h k c) 3 0 a)), some (vI (nI (k + 1))), some (vI (nI 3))]) (lvS (lvS (lvS (lvS (lvS (lvS (lvI (nI_1 k) (lvS rfl)))))))) ?_
            refine x_less (lv' := [some (vR 40), some (vI i), some (vI h), some (vI (nI r)), some (vI (sLeast (ι 53) (ι 56) r 9)), some (vI (fo (fun c a => a + sBl1 (ι 53) (ι 56) (ι 57) r (sLeast (ι 53) (ι 56) r 9) h k c) 3 0 a)), some (vI (nI (k + 1))), none]) (less_ok (m := [true, true, true, true, true, true, true, false]) rfl) ?_
            exact ih
        · show gX K none 3 0 0 jX12_blame 111 [some (vR 40), some (vI i), some (vI h), some (vI (nI r)), some (vI (sLeast (ι 53) (ι 56) r 9)), some (vI (sBlame (ι 53) (ι 56) (ι 57) r h)), some (vI (nI 9)), none] [] 0 0 z ρ Λ _
          refine x_iload DX12_blame_111 rfl ?_
          refine x_bipush 9 DX12_blame_113 (by decide) ?_
          refine x_icmp_ge 209 DX12_blame_115 (by decide) (fun c_115 => ?_) (fun c_115 => False.elim (c_115 (by decide)))
          refine x_iload DX12_blame_209 rfl ?_
          exact x_ireturn DX12_blame_211 rfl ⟨by rw [rs, if_pos (by grind [cTwo]), eq_nat hr1 (by omega)], by rw [rsM, if_pos (by grind [cTwo]), eq_nat hr1 (by omega)]; exact hz, rfl, rfl⟩
    · refine x_aload_n 0 DX12_blame_19 rfl rfl ?_
      refine x_iconst (-1) DX12_blame_20 (by decide) ?_
      refine x_Ve (ci := 12) (av := [vI (-1)]) (rest := []) (st' := [vI (-1)]) 0 0 DX12_blame_21 L12_120 rfl rfl rfl rfl rfl ⟨nle rfl, nle rfl, nle rfl⟩ ⟨rfl, nle rfl⟩ ⟨rfl, nle rfl⟩ (m_refuse K (-1) ι ρ Λ hF ⟨by decide, by decide⟩) rfl ?_
      refine x_nmι (fun ι21 e_ι21 => ?_)
      exact x_ireturn DX12_blame_24 rfl ⟨by grind [cTwo, rs], by grind [cTwo, rsM], rfl, rfl⟩
