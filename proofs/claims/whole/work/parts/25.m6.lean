/-! the model, VI: weeks, breaks -/
theorem m_breaks0 (K : gK) (p : Nat) (ι : gIm) (ρ : gRm) (Λ : gLm) (hF : gFix ρ Λ) (hp : p < 6) (hh : gIn (ι 59 p) 200) (nb : Nat) (hB : ι 40 7 = nI nb) (hb : nb ≤ 40) : gCe K 2 0 0 jX12_breaks [vR 40, vI (nI p)] ι ρ Λ none (mBreak p ι) ρ Λ := by
  refine gC_of (by decide) (nle rfl) ?_
  refine x_aload_n 0 DX12_breaks_0 rfl rfl ?_
  refine x_iload_n 1 DX12_breaks_1 rfl rfl ?_
  refine x_Ve (ci := 12) (av := [vI (nI p)]) (rest := []) (st' := [vI (ι 59 p)]) 0 0 DX12_breaks_2 L12_194 rfl rfl rfl rfl rfl ⟨nle rfl, nle rfl, nle rfl⟩ ⟨rfl, nle rfl⟩ ⟨rfl, nle rfl⟩ (m_gone0 K p ι ρ Λ hF hp hh) rfl ?_
  refine x_nmι (fun ι2 e_ι2 => ?_)
  refine x_istore_n 2 (lv' := [some (vR 40), some (vI (nI p)), some (vI (ι 59 p))]) DX12_breaks_5 rfl ⟨nlt rfl, nlt rfl⟩ rfl ?_
  refine x_aload_n 0 DX12_breaks_6 rfl rfl ?_
  refine x_geti (v := (nI nb)) 7 DX12_breaks_7 (Or.inl F12_213) rfl rfl (by rw [e_ι2]; unfold mGone; rw [up2_ne _ _ _ (by decide), up2_ne _ _ _ (by decide)]; exact hB) ?_
  refine x_bipush 40 DX12_breaks_10 (by decide) ?_
  refine x_icmp_ne 16 DX12_breaks_12 (by decide) (fun c_12 => ?_) (fun c_12 => ?_)
  · refine x_aload_n 0 DX12_breaks_16 rfl rfl ?_
    refine x_getr 30 (some 63) DX12_breaks_17 (Or.inr F12_77) rfl rfl (hF.1 40 30 63 rfl) ?_
    refine x_iconst 3 DX12_breaks_20 (by decide) ?_
    refine x_aload_n 0 DX12_breaks_21 rfl rfl ?_
    refine x_geti (v := (nI nb)) 7 DX12_breaks_22 (Or.inl F12_213) rfl rfl (by rw [e_ι2]; unfold mGone; rw [up2_ne _ _ _ (by decide), up2_ne _ _ _ (by decide)]; exact hB) ?_
    refine x_imul DX12_breaks_25 ?_
    refine x_iload_n 2 DX12_breaks_26 rfl rfl ?_
    refine x_iast (3 * nb) (eq_nat (i3_0 nb) (by omega)) DX12_breaks_27 rfl (gIn.fx hF (c := 63) (n := 120) rfl (eq_gin (i3_0 nb) (by have := brk_lt (by assumption) hb; omega) (by omega))) (fun ι27 e_ι27 => ?_)
    refine x_aload_n 0 DX12_breaks_28 rfl rfl ?_
    refine x_getr 30 (some 63) DX12_breaks_29 (Or.inr F12_77) rfl rfl (hF.1 40 30 63 rfl) ?_
    refine x_iconst 3 DX12_breaks_32 (by decide) ?_
    refine x_aload_n 0 DX12_breaks_33 rfl rfl ?_
    refine x_geti (v := (nI nb)) 7 DX12_breaks_34 (Or.inl F12_213) rfl rfl ((rd1 e_ι27 (by decide)).trans (by rw [e_ι2]; unfold mGone; rw [up2_ne _ _ _ (by decide), up2_ne _ _ _ (by decide)]; exact hB)) ?_
    refine x_imul DX12_breaks_37 ?_
    refine x_iconst 1 DX12_breaks_38 (by decide) ?_
    refine x_iadd DX12_breaks_39 ?_
    refine x_aload_n 0 DX12_breaks_40 rfl rfl ?_
    refine x_geti (v := (ι 40 2)) 2 DX12_breaks_41 (Or.inl F12_162) rfl rfl ((rd1 e_ι27 (by decide)).trans (by rw [e_ι2]; unfold mGone; rw [up2_ne _ _ _ (by decide), up2_ne _ _ _ (by decide)])) ?_
    refine x_iast (3 * nb + 1) (eq_nat (i3_1 nb) (by omega)) DX12_breaks_44 rfl (gIn.fx hF (c := 63) (n := 120) rfl (eq_gin (i3_1 nb) (by have := brk_lt (by assumption) hb; omega) (by omega))) (fun ι44 e_ι44 => ?_)
    refine x_aload_n 0 DX12_breaks_45 rfl rfl ?_
    refine x_getr 30 (some 63) DX12_breaks_46 (Or.inr F12_77) rfl rfl (hF.1 40 30 63 rfl) ?_
    refine x_iconst 3 DX12_breaks_49 (by decide) ?_
    refine x_aload_n 0 DX12_breaks_50 rfl rfl ?_
    refine x_geti (v := (nI nb)) 7 DX12_breaks_51 (Or.inl F12_213) rfl rfl (((rd1 e_ι44 (by decide)).trans (rd1 e_ι27 (by decide))).trans (by rw [e_ι2]; unfold mGone; rw [up2_ne _ _ _ (by decide), up2_ne _ _ _ (by decide)]; exact hB)) ?_
    refine x_imul DX12_breaks_54 ?_
    refine x_iconst 2 DX12_breaks_55 (by decide) ?_
    refine x_iadd DX12_breaks_56 ?_
    refine x_aload_n 0 DX12_breaks_57 rfl rfl ?_
    refine x_geti (v := (ι 40 3)) 3 DX12_breaks_58 (Or.inl F12_165) rfl rfl (((rd1 e_ι44 (by decide)).trans (rd1 e_ι27 (by decide))).trans (by rw [e_ι2]; unfold mGone; rw [up2_ne _ _ _ (by decide), up2_ne _ _ _ (by decide)])) ?_
    refine x_iast (3 * nb + 2) (eq_nat (i3_2 nb) (by omega)) DX12_breaks_61 rfl (gIn.fx hF (c := 63) (n := 120) rfl (eq_gin (i3_2 nb) (by have := brk_lt (by assumption) hb; omega) (by omega))) (fun ι61 e_ι61 => ?_)
    refine x_aload_n 0 DX12_breaks_62 rfl rfl ?_
    refine x_dup DX12_breaks_63 ?_
    refine x_geti (v := (nI nb)) 7 DX12_breaks_64 (Or.inl F12_213) rfl rfl ((((rd1 e_ι61 (by decide)).trans (rd1 e_ι44 (by decide))).trans (rd1 e_ι27 (by decide))).trans (by rw [e_ι2]; unfold mGone; rw [up2_ne _ _ _ (by decide), up2_ne _ _ _ (by decide)]; exact hB)) ?_
    refine x_iconst 1 DX12_breaks_67 (by decide) ?_
    refine x_iadd DX12_breaks_68 ?_
    refine x_puti 7 DX12_breaks_69 F12_213 rfl (Or.inl rfl) rfl (fun ι69 e_ι69 => ?_)
    exact x_return DX12_breaks_72 rfl ⟨rfl, by rw [mBreak, if_neg (by grind), hB, nI_cl1 (by omega)]; subst_vars; rfl, rfl, rfl⟩
  · exact x_return DX12_breaks_15 rfl ⟨rfl, by subst_vars; rw [mBreak, if_pos (by grind)], rfl, rfl⟩
theorem m_weeks (K : gK) (n : Int32) (ι : gIm) (ρ : gRm) (Λ : gLm) (hF : gFix ρ Λ) (hg : ∀ p, p < 6 → ¬ ι 59 p < 0 → gIn (ι 59 p) 200) (wk : Nat) (hW : ι 40 3 = nI wk) (hw : wk ≤ 52) (nb : Nat) (hB : ι 40 7 = nI nb) (hb : nb ≤ 40) : gCe K 4 0 0 jX12_weeks [vR 40, vI n] ι ρ Λ (some (vI (rs (wr n 1 (52 - nI wk)) (nI wk + n)))) (rsM (wr n 1 (52 - nI wk)) 41 ι (mWks n.toNatClampNeg ι)) ρ Λ := by
  refine gC_of (by decide) (nle rfl) ?_
  refine x_iload_n 1 DX12_weeks_0 rfl rfl ?_
  refine x_iconst 1 DX12_weeks_1 (by decide) ?_
  refine x_bipush 52 DX12_weeks_2 (by decide) ?_
  refine x_aload_n 0 DX12_weeks_4 rfl rfl ?_
  refine x_geti (v := (nI wk)) 3 DX12_weeks_5 (Or.inl F12_165) rfl rfl hW ?_
  refine x_isub DX12_weeks_8 ?_
  refine x_Se (av := [vI n, vI 1, vI (52 - (nI wk))]) (rest := []) (st' := [vI (wr n 1 (52 - (nI wk)))]) 0 0 DX12_weeks_9 L12_128 rfl rfl ⟨nle rfl, nle rfl, nle rfl⟩ ⟨rfl, nle rfl⟩ ⟨rfl, nle rfl⟩ (m_wrong K n 1 (52 - (nI wk)) ι ρ Λ) rfl ?_
  refine x_istore_n 2 (lv' := [some (vR 40), some (vI n), some (vI (wr n 1 (52 - (nI wk)))), none, none]) DX12_weeks_12 rfl ⟨nlt rfl, nlt rfl⟩ rfl ?_
  refine x_iload_n 2 DX12_weeks_13 rfl rfl ?_
  refine x_if_eq 23 DX12_weeks_14 (by decide) (fun c_14 => ?_) (fun c_14 => ?_)
  · refine x_iconst 0 DX12_weeks_23 (by decide) ?_
    refine x_istore_n 3 (lv' := [some (vR 40), some (vI n), some (vI (wr n 1 (52 - (nI wk)))), some (vI 0), none]) DX12_weeks_24 rfl ⟨nlt rfl, nlt rfl⟩ rfl ?_
    obtain ⟨h1n, hn2⟩ := wr0 (by assumption)
    have hnn : ∃ nn, nn ≤ 52 - wk ∧ n = nI nn := by
      rw [show (52 : Int32) = nI 52 from rfl, pk_sub (by omega)] at hn2
      obtain ⟨nn, h3, h4⟩ := nI_of2 (nI_toInt (by omega)) (show ¬ n < 0 by grind) hn2
      exact ⟨nn, h3, h4⟩
    obtain ⟨nn, hnn, hne⟩ := hnn
    refine x_lv (lv' := [some (vR 40), some (vI n), some (vI (wr n 1 (52 - nI wk))), some (vI (nI 0)), none]) (lvS (lvS (lvS (lvI nI_0.symm (lvS rfl))))) ?_
    refine lpJ (W := fun (i : Nat) (z : gIm) => gX K none 4 0 0 jX12_weeks 25 [some (vR 40), some (vI n), some (vI (wr n 1 (52 - nI wk))), some (vI (nI i)), none] [] 0 0 z ρ Λ _) (fun _ z => mWk z) (fun i z => okW (ι 42) (wk + i) z) nn (fun i z hi hJ ih => ?_) (fun i z hi hJ => okW_k hJ) 0 ι (by omega) ⟨rfl, hW, ⟨nb, hb, hB⟩, hg⟩ (fun hJ => ?_)
    · obtain ⟨hz1, hz2, ⟨nb1, hb1, hB1⟩, hg1⟩ := id hJ
      refine x_iload_n 3 DX12_weeks_25 rfl rfl ?_
      refine x_iload_n 1 DX12_weeks_26 rfl rfl ?_
      refine x_icmp_ge 106 DX12_weeks_27 (by decide) (fun c_27 => False.elim (by rw [hne, nI_le1 (by omega) (by omega)] at c_27; omega)) (fun c_27 => ?_)
      refine x_iconst 0 DX12_weeks_30 (by decide) ?_
      refine x_istore (lv' := [some (vR 40), some (vI n), some (vI (wr n 1 (52 - nI wk))), some (vI (nI i)), some (vI 0)]) DX12_weeks_31 ⟨nlt rfl, nlt rfl⟩ rfl ?_
      refine x_lv (lv' := [some (vR 40), some (vI n), some (vI (wr n 1 (52 - nI wk))), some (vI (nI i)), some (vI (nI 0))]) (lvS (lvS (lvS (lvS (lvI nI_0.symm rfl))))) ?_
      refine lpJ (W := fun (p : Nat) (y : gIm) => gX K none 4 0 0 jX12_weeks 33 [some (vR 40), some (vI n), some (vI (wr n 1 (52 - nI wk))), some (vI (nI i)), some (vI (nI p))] [] 0 0 y ρ Λ _) (mWk1 (sWet (z 42) (z 40 3).toNatClampNeg)) (fun p y => okW (ι 42) (wk + i) y) 6 (fun p y hp hJ2 ih2 => ?_) (fun p y hp hJ2 => okW_1 hJ2) 0 z (by omega) hJ (fun hJ2 => ?_)
      · obtain ⟨hy1, hy2, ⟨nb2, hb2, hB2⟩, hg2⟩ := id hJ2
        have hwet : sWet (y 42) (y 40 3).toNatClampNeg = sWet (z 42) (z 40 3).toNatClampNeg := by rw [hy1, hy2, hz1, hz2]
        have hwk : gIn (y 40 3) 52 := eq_gin hy2 (by omega) (by omega)
        have hJ3 := okW_wet (p := p) (w := y 61 p + sWet (z 42) (z 40 3).toNatClampNeg) hJ2
        obtain ⟨-, -, ⟨nb3, hb3, hB3⟩, hg3⟩ := id hJ3
        refine x_iload DX12_weeks_33 rfl ?_
        refine x_bipush 6 DX12_weeks_35 (by decide) ?_
        refine x_icmp_ge 90 DX12_weeks_37 (by decide) (fun c_37 => False.elim (by rw [show (6 : Int32) = nI 6 from rfl, nI_le1 (by omega) (by omega)] at c_37; omega)) (fun c_37 => ?_)
        refine x_aload_n 0 DX12_weeks_40 rfl rfl ?_
        refine x_getr 28 (some 61) DX12_weeks_41 (Or.inr F12_71) rfl rfl (hF.1 40 28 61 rfl) ?_
        refine x_iload DX12_weeks_44 rfl ?_
        refine x_dup2 DX12_weeks_46 ?_
        refine x_iald (v := (y 61 p)) p (nI_cl1 (by omega)) DX12_weeks_47 rfl (gIn.fx hF (c := 61) (n := 6) rfl (gIn_nI (by omega) (by omega))) rfl ?_
        refine x_aload_n 0 DX12_weeks_48 rfl rfl ?_
        refine x_aload_n 0 DX12_weeks_49 rfl rfl ?_
        refine x_geti (v := (y 40 3)) 3 DX12_weeks_50 (Or.inl F12_165) rfl rfl rfl ?_
        refine x_Ve (ci := 12) (av := [vI (y 40 3)]) (rest := [vI (y 61 p), vI (nI p), vR 61]) (st' := [vI (sWet (y 42) (y 40 3).toNatClampNeg), vI (y 61 p), vI (nI p), vR 61]) 0 0 DX12_weeks_53 L12_206 rfl rfl rfl rfl rfl ⟨nle rfl, nle rfl, nle rfl⟩ ⟨rfl, nle rfl⟩ ⟨rfl, nle rfl⟩ (m_wetOf K (y 40 3) y ρ Λ hF hwk) rfl ?_
        refine x_iadd DX12_weeks_56 ?_
        refine x_nm (fun wt e_wt => ?_)
        refine x_iast p (nI_cl1 (by omega)) DX12_weeks_57 rfl (gIn.fx hF (c := 61) (n := 6) rfl (gIn_nI (by omega) (by omega))) (fun ι57 e_ι57 => ?_)
        refine x_aload_n 0 DX12_weeks_58 rfl rfl ?_
        refine x_getr 26 (some 59) DX12_weeks_59 (Or.inr F12_65) rfl rfl (hF.1 40 26 59 rfl) ?_
        refine x_iload DX12_weeks_62 rfl ?_
        refine x_iald (v := (y 59 p)) p (nI_cl1 (by omega)) DX12_weeks_64 rfl (gIn.fx hF (c := 59) (n := 6) rfl (gIn_nI (by omega) (by omega))) (rd1 e_ι57 (by decide)) ?_
        refine x_if_lt 84 DX12_weeks_65 (by decide) (fun c_65 => ?_) (fun c_65 => ?_)
        · refine x_iinc ((nI p) + 1) (lv' := [some (vR 40), some (vI n), some (vI (wr n 1 (52 - nI wk))), some (vI (nI i)), some (vI ((nI p) + 1))]) DX12_weeks_84 rfl rfl (nlt rfl) rfl ?_
          refine x_goto 33 DX12_weeks_87 (by decide) ?_
          refine x_lv (lv' := [some (vR 40), some (vI n), some (vI (wr n 1 (52 - nI wk))), some (vI (nI i)), some (vI (nI (p + 1)))]) (lvS (lvS (lvS (lvS (lvI (nI_1 p) rfl))))) ?_
          rw [show ι57 = mWk1 (sWet (z 42) (z 40 3).toNatClampNeg) p y from by rw [mWk1, ← hwet, ← e_wt, ← e_ι57, if_neg (by grind)]]
          exact ih2
        · refine x_aload_n 0 DX12_weeks_68 rfl rfl ?_
          refine x_iload DX12_weeks_69 rfl ?_
          refine x_iconst 0 DX12_weeks_71 (by decide) ?_
          have g3 := m_strengthOf K (nI p) 0 ι57 ρ Λ hF (by rw [e_ι57]; exact hg3) (gIn_nI hp (by omega))
          rw [nI_cl1 (by omega)] at g3
          refine x_Ve (ci := 12) (av := [vI (nI p), vI 0]) (rest := []) (st' := [vI (sStg ι57 0 p)]) 0 0 DX12_weeks_72 L12_197 rfl rfl rfl rfl rfl ⟨nle rfl, nle rfl, nle rfl⟩ ⟨rfl, nle rfl⟩ ⟨rfl, nle rfl⟩ (g3) rfl ?_
          refine x_if_ne 84 DX12_weeks_75 (by decide) (fun c_75 => ?_) (fun c_75 => ?_)
          · refine x_iinc ((nI p) + 1) (lv' := [some (vR 40), some (vI n), some (vI (wr n 1 (52 - nI wk))), some (vI (nI i)), some (vI ((nI p) + 1))]) DX12_weeks_84 rfl rfl (nlt rfl) rfl ?_
            refine x_goto 33 DX12_weeks_87 (by decide) ?_
            refine x_lv (lv' := [some (vR 40), some (vI n), some (vI (wr n 1 (52 - nI wk))), some (vI (nI i)), some (vI (nI (p + 1)))]) (lvS (lvS (lvS (lvS (lvI (nI_1 p) rfl))))) ?_
            rw [show ι57 = mWk1 (sWet (z 42) (z 40 3).toNatClampNeg) p y from by rw [mWk1, ← hwet, ← e_wt, ← e_ι57, if_neg (by grind)]]
            exact ih2
          · refine x_aload_n 0 DX12_weeks_78 rfl rfl ?_
            refine x_iload DX12_weeks_79 rfl ?_
            have g4 := m_breaks0 K p ι57 ρ Λ hF hp (by rw [e_ι57]; exact hg3 p hp (by rw [up2_ne _ _ _ (by decide)]; grind)) nb3 (by rw [e_ι57]; exact hB3) hb3
            refine x_Ve (ci := 12) (av := [vI (nI p)]) (rest := []) (st' := []) 0 0 DX12_weeks_81 L12_209 rfl rfl rfl rfl rfl ⟨nle rfl, nle rfl, nle rfl⟩ ⟨rfl, nle rfl⟩ ⟨rfl, nle rfl⟩ (g4) rfl ?_
            refine x_nmι (fun ι81 e_ι81 => ?_)
            refine x_iinc ((nI p) + 1) (lv' := [some (vR 40), some (vI n), some (vI (wr n 1 (52 - nI wk))), some (vI (nI i)), some (vI ((nI p) + 1))]) DX12_weeks_84 rfl rfl (nlt rfl) rfl ?_
            refine x_goto 33 DX12_weeks_87 (by decide) ?_
            refine x_lv (lv' := [some (vR 40), some (vI n), some (vI (wr n 1 (52 - nI wk))), some (vI (nI i)), some (vI (nI (p + 1)))]) (lvS (lvS (lvS (lvS (lvI (nI_1 p) rfl))))) ?_
            rw [show ι81 = mWk1 (sWet (z 42) (z 40 3).toNatClampNeg) p y from by rw [mWk1, ← hwet, ← e_wt, ← e_ι57, if_pos ⟨by grind, by grind⟩]; exact e_ι81]
            exact ih2
      · have hP := hJ2
        obtain ⟨hq1, hq2, hq3, hq4⟩ := id hJ2
        generalize hze : fo (mWk1 (sWet (z 42) (z 40 3).toNatClampNeg)) (6 - 0) 0 z = zp at hJ2 hq1 hq2 hq3 hq4 hP ⊢
        have hze2 : zp = mWkP z := hze.symm
        show gX K none 4 0 0 jX12_weeks 33 [some (vR 40), some (vI n), some (vI (wr n 1 (52 - nI wk))), some (vI (nI i)), some (vI (nI 6))] [] 0 0 zp ρ Λ _
        refine x_iload DX12_weeks_33 rfl ?_
        refine x_bipush 6 DX12_weeks_35 (by decide) ?_
        refine x_icmp_ge 90 DX12_weeks_37 (by decide) (fun c_37 => ?_) (fun c_37 => False.elim (c_37 (by decide)))
        refine x_aload_n 0 DX12_weeks_90 rfl rfl ?_
        refine x_dup DX12_weeks_91 ?_
        refine x_geti (v := (z 40 3)) 3 DX12_weeks_92 (Or.inl F12_165) rfl rfl (by rw [hq2, hz2]) ?_
        refine x_iconst 1 DX12_weeks_95 (by decide) ?_
        refine x_iadd DX12_weeks_96 ?_
        refine x_puti 3 DX12_weeks_97 F12_165 rfl (Or.inl rfl) rfl (fun ι97 e_ι97 => ?_)
        refine x_iinc ((nI i) + 1) (lv' := [some (vR 40), some (vI n), some (vI (wr n 1 (52 - nI wk))), some (vI ((nI i) + 1)), some (vI (nI 6))]) DX12_weeks_100 rfl rfl (nlt rfl) rfl ?_
        refine x_goto 25 DX12_weeks_103 (by decide) ?_
        refine x_lv (lv' := [some (vR 40), some (vI n), some (vI (wr n 1 (52 - nI wk))), some (vI (nI (i + 1))), some (vI (nI 6))]) (lvS (lvS (lvS (lvI (nI_1 i) (lvS rfl))))) ?_
        refine x_less (lv' := [some (vR 40), some (vI n), some (vI (wr n 1 (52 - nI wk))), some (vI (nI (i + 1))), none]) (less_ok (m := [true, true, true, true, false]) rfl) ?_
        rw [show ι97 = mWk z from by rw [e_ι97, hze2]; rfl]
        exact ih
    · obtain ⟨hq1, hq2, hq3, hq4⟩ := id hJ
      have hme : fo (fun _ z => mWk z) (nn - 0) 0 ι = mWks nn ι := rfl
      rw [hme] at hq2 ⊢
      show gX K none 4 0 0 jX12_weeks 25 [some (vR 40), some (vI n), some (vI (wr n 1 (52 - nI wk))), some (vI (nI nn)), none] [] 0 0 (mWks nn ι) ρ Λ _
      refine x_iload_n 3 DX12_weeks_25 rfl rfl ?_
      refine x_iload_n 1 DX12_weeks_26 rfl rfl ?_
      refine x_icmp_ge 106 DX12_weeks_27 (by decide) (fun c_27 => ?_) (fun c_27 => False.elim (c_27 (by rw [hne]; exact nI_le (Nat.le_refl _) (by omega))))
      refine x_aload_n 0 DX12_weeks_106 rfl rfl ?_
      refine x_geti (v := (nI (wk + nn))) 3 DX12_weeks_107 (Or.inl F12_165) rfl rfl hq2 ?_
      exact x_ireturn DX12_weeks_110 rfl ⟨by rw [rs, if_pos (by assumption), hne, nI_add], by rw [rsM, if_pos (by assumption), hne, nI_cl1 (by omega)], rfl, rfl⟩
  · refine x_aload_n 0 DX12_weeks_17 rfl rfl ?_
    refine x_iload_n 2 DX12_weeks_18 rfl rfl ?_
    refine x_Ve (ci := 12) (av := [vI (wr n 1 (52 - (nI wk)))]) (rest := []) (st' := [vI (wr n 1 (52 - (nI wk)))]) 0 0 DX12_weeks_19 L12_120 rfl rfl rfl rfl rfl ⟨nle rfl, nle rfl, nle rfl⟩ ⟨rfl, nle rfl⟩ ⟨rfl, nle rfl⟩ (m_refuse K (wr n 1 (52 - (nI wk))) ι ρ Λ hF (wr_in _ _ _ (by assumption))) rfl ?_
    refine x_nmι (fun ι19 e_ι19 => ?_)
    exact x_ireturn DX12_weeks_22 rfl ⟨by grind [rs], by grind [rsM], rfl, rfl⟩
