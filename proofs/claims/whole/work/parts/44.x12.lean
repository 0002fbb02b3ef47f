/-! the class, XII: weeks -/
theorem x_passWeek (K : gK)  (ι : gIm) (ρ : gRm) (Λ : gLm) (hF : gFix ρ Λ) (wk : Nat) (hW : ι 2 1 = nI wk) (hw : wk < 52) (ht : ∀ k, k < 52 → -1 ≤ ι 3 k ∧ ι 3 k ≤ 9) (hok : okX (ι 2 0) wk (ι 3) (ι, ρ, Λ)) : gCe K 4 6 18 jX11_passWeek [vR 0] ι ρ Λ none (xWk (ι, ρ, Λ)).1 (xWk (ι, ρ, Λ)).2.1 (xWk (ι, ρ, Λ)).2.2 := by
  refine gC_of (by decide) (nle rfl) ?_
  refine x_aload_n 0 DX11_passWeek_0 rfl rfl ?_
  refine x_getr 4 (some 9) DX11_passWeek_1 (Or.inr F11_37) rfl rfl (hF.1 0 4 9 rfl) ?_
  refine x_aload_n 0 DX11_passWeek_4 rfl rfl ?_
  refine x_getr 1 (some 2) DX11_passWeek_5 (Or.inr F11_16) rfl rfl (hF.1 0 1 2 rfl) ?_
  refine x_aload_n 0 DX11_passWeek_8 rfl rfl ?_
  refine x_getr 1 (some 2) DX11_passWeek_9 (Or.inr F11_16) rfl rfl (hF.1 0 1 2 rfl) ?_
  refine x_geti (v := (nI wk)) 1 DX11_passWeek_12 (Or.inl F11_104) rfl rfl hW ?_
  have g := x_wetOf K (nI wk) ι ρ Λ hF (fun k h => (ht k h).1) (gIn_nI (by omega) (by omega))
  rw [nI_cl1 (show wk < 1000000 by omega)] at g
  refine x_Ve (ci := 8) (av := [vI (nI wk)]) (rest := [vR 9]) (st' := [vI (sWet (ι 3) wk), vR 9]) 0 0 DX11_passWeek_15 L11_110 rfl rfl rfl rfl rfl ⟨nle rfl, nle rfl, nle rfl⟩ ⟨rfl, nle rfl⟩ ⟨rfl, nle rfl⟩ (g) rfl ?_
  refine x_Ve (ci := 9) (av := [vI (sWet (ι 3) wk)]) (rest := []) (st' := []) 0 0 DX11_passWeek_18 L11_113 rfl rfl rfl rfl rfl ⟨nle rfl, nle rfl, nle rfl⟩ ⟨rfl, nle rfl⟩ ⟨rfl, nle rfl⟩ (x_soak K (sWet (ι 3) wk) ι ρ Λ hF) rfl ?_
  refine x_nmι (fun ι18 e_ι18 => ?_)
  refine x_iconst 0 DX11_passWeek_21 (by decide) ?_
  refine x_istore_n 1 (lv' := [some (vR 0), some (vI 0)]) DX11_passWeek_22 rfl ⟨nlt rfl, nlt rfl⟩ rfl ?_
  have hJ0 : okX (ι 2 0) wk (ι 3) (xSoak ι (sWet (ι 3) wk) 6, ρ, Λ) := okX_s (M := (ι, ρ, Λ)) hok
  have hxk : xWk (ι, ρ, Λ) = (up2 (xWkP (xSoak ι (sWet (ι 3) wk) 6, ρ, Λ)).1 2 1 ((xWkP (xSoak ι (sWet (ι 3) wk) 6, ρ, Λ)).1 2 1 + 1), (xWkP (xSoak ι (sWet (ι 3) wk) 6, ρ, Λ)).2) := by
    have hs0 : xSk (ι, ρ, Λ) = (xSoak ι (sWet (ι 3) wk) 6, ρ, Λ) := by show (xSoak ι (sWet (ι 3) (ι 2 1).toNatClampNeg) 6, ρ, Λ) = _; rw [hW, nI_cl1 (by omega)]
    rw [xWk, hs0]
  have e0 : ∀ M, M = (xSoak ι (sWet (ι 3) wk) 6, ρ, Λ) → gX K none 4 6 18 jX11_passWeek 23 [some (vR 0), some (vI (nI 0))] [] 0 0 M.1 M.2.1 M.2.2 (fun r2 a b c => r2 = none ∧ a = (xWk (ι, ρ, Λ)).1 ∧ b = (xWk (ι, ρ, Λ)).2.1 ∧ c = (xWk (ι, ρ, Λ)).2.2) := by
    intro M hM
    rw [← hM] at hJ0
    refine lpJ (W := fun (p : Nat) (M : gMm) => gX K none 4 6 18 jX11_passWeek 23 [some (vR 0), some (vI (nI p))] [] p (3 * p) M.1 M.2.1 M.2.2 (fun r2 a b c => r2 = none ∧ a = (xWk (ι, ρ, Λ)).1 ∧ b = (xWk (ι, ρ, Λ)).2.1 ∧ c = (xWk (ι, ρ, Λ)).2.2)) xWk1 (fun _ M => okX (ι 2 0) wk (ι 3) M) 6 (fun p M hp hJ ih => ?_) (fun p M hp hJ => okX_1 hp hJ) 0 M (by omega) hJ0 (fun hJ => ?_)
    · obtain ⟨hF1, ⟨hy2, hw2, h3⟩, h4, nb, hb, hB, hfr⟩ := id hJ
      have hnb : nbo M.1 = nb := by rw [nbo, hB, nI_cl1 (by omega)]
      have hSp := spo_map h4
      have hSr := spo_lt h4
      generalize hspe : spo M.2.1 = sp at hSp hSr
      have hp6 : 0 ≤ nI p ∧ nI p < 6 := ⟨nI_pos' (by omega), nI_lt (b := 6) (by omega) (by omega)⟩
      refine x_iload_n 1 DX11_passWeek_23 rfl rfl ?_
      refine x_bipush 6 DX11_passWeek_24 (by decide) ?_
      refine x_icmp_ge 94 DX11_passWeek_26 (by decide) (fun c_26 => False.elim (by rw [show (6 : Int32) = nI 6 from rfl, nI_le1 (by omega) (by omega)] at c_26; omega)) (fun c_26 => ?_)
      rcases hs : sp p with _ | r
      · refine x_aload_n 0 DX11_passWeek_29 rfl rfl ?_
        refine x_getr 4 (some 9) DX11_passWeek_30 (Or.inr F11_37) rfl rfl (hF1.1 0 4 9 rfl) ?_
        refine x_iload_n 1 DX11_passWeek_33 rfl rfl ?_
        refine x_Ve (ci := 9) (av := [vI (nI p)]) (rest := []) (st' := [vN]) p (3 * p) DX11_passWeek_34 L11_117 rfl rfl rfl rfl rfl ⟨nle rfl, nle rfl, nle rfl⟩ ⟨rfl, by omega⟩ ⟨rfl, by omega⟩ (x_ropeAtN K (nI p) M.1 M.2.1 M.2.2 hF1 hp6 (by rw [show ((nI p) : Int32).toNatClampNeg = p from nI_cl1 (by omega), hSp _ (by omega), hs]; rfl)) rfl ?_
        refine x_ifnull 88 DX11_passWeek_37 (by decide) (fun _ => ?_) (fun _ h => by cases h)
        refine x_iinc ((nI p) + 1) (lv' := [some (vR 0), some (vI ((nI p) + 1))]) DX11_passWeek_88 rfl rfl (nlt rfl) rfl ?_
        refine x_goto 23 DX11_passWeek_91 (by decide) ?_
        refine x_widen (p + 1) (3 * (p + 1)) (by omega) (by omega) ?_
        refine x_lv (lv' := [some (vR 0), some (vI (nI (p + 1)))]) (lvS (lvI (nI_1 p) rfl)) ?_
        have e : xWk1 p M = M := by rw [xWk1, hspe, if_neg (fun h => h.1 hs)]
        rw [e] at ih
        exact ih
      · have hbr := hSr _ _ hp hs
        refine x_aload_n 0 DX11_passWeek_29 rfl rfl ?_
        refine x_getr 4 (some 9) DX11_passWeek_30 (Or.inr F11_37) rfl rfl (hF1.1 0 4 9 rfl) ?_
        refine x_iload_n 1 DX11_passWeek_33 rfl rfl ?_
        refine x_Ve (ci := 9) (av := [vI (nI p)]) (rest := []) (st' := [vR (200 + r)]) p (3 * p) DX11_passWeek_34 L11_117 rfl rfl rfl rfl rfl ⟨nle rfl, nle rfl, nle rfl⟩ ⟨rfl, by omega⟩ ⟨rfl, by omega⟩ (x_ropeAtS K (nI p) M.1 M.2.1 M.2.2 hF1 hp6 r (by rw [show ((nI p) : Int32).toNatClampNeg = p from nI_cl1 (by omega), hSp _ (by omega), hs]; rfl)) rfl ?_
        refine x_ifnull 88 DX11_passWeek_37 (by decide) (fun h => by cases h) (fun _ _ => ?_)
        refine x_aload_n 0 DX11_passWeek_40 rfl rfl ?_
        refine x_getr 4 (some 9) DX11_passWeek_41 (Or.inr F11_37) rfl rfl (hF1.1 0 4 9 rfl) ?_
        refine x_iload_n 1 DX11_passWeek_44 rfl rfl ?_
        refine x_aload_n 0 DX11_passWeek_45 rfl rfl ?_
        refine x_getr 1 (some 2) DX11_passWeek_46 (Or.inr F11_16) rfl rfl (hF1.1 0 1 2 rfl) ?_
        refine x_geti (v := (M.1 2 0)) 0 DX11_passWeek_49 (Or.inl F11_94) rfl rfl rfl ?_
        refine x_iconst 0 DX11_passWeek_52 (by decide) ?_
        have g3 := x_strengthAt K (nI p) (M.1 2 0) 0 M.1 M.2.1 M.2.2 hF1 sp hSp hSr hp6
        rw [nI_cl1 (show p < 1000000 by omega)] at g3
        refine x_Ve (ci := 9) (av := [vI (nI p), vI (M.1 2 0), vI 0]) (rest := []) (st' := [vI (sStX M.1 sp (M.1 2 0) 0 p)]) p (3 * p) DX11_passWeek_53 L11_121 rfl rfl rfl rfl rfl ⟨nle rfl, nle rfl, nle rfl⟩ ⟨rfl, by omega⟩ ⟨rfl, by omega⟩ (g3) rfl ?_
        refine x_if_ne 88 DX11_passWeek_56 (by decide) (fun c_56 => ?_) (fun c_56 => ?_)
        · refine x_iinc ((nI p) + 1) (lv' := [some (vR 0), some (vI ((nI p) + 1))]) DX11_passWeek_88 rfl rfl (nlt rfl) rfl ?_
          refine x_goto 23 DX11_passWeek_91 (by decide) ?_
          refine x_widen (p + 1) (3 * (p + 1)) (by omega) (by omega) ?_
          refine x_lv (lv' := [some (vR 0), some (vI (nI (p + 1)))]) (lvS (lvI (nI_1 p) rfl)) ?_
          have e : xWk1 p M = M := by rw [xWk1, hspe, if_neg (fun h => absurd h.2 (by assumption))]
          rw [e] at ih
          exact ih
        · refine x_aload_n 0 DX11_passWeek_59 rfl rfl ?_
          refine x_getr 5 (some 14) DX11_passWeek_60 (Or.inr F11_44) rfl rfl (hF1.1 0 5 14 rfl) ?_
          refine x_aload_n 0 DX11_passWeek_63 rfl rfl ?_
          refine x_getr 4 (some 9) DX11_passWeek_64 (Or.inr F11_37) rfl rfl (hF1.1 0 4 9 rfl) ?_
          refine x_iload_n 1 DX11_passWeek_67 rfl rfl ?_
          have g4 := x_takeS K (nI p) M.1 M.2.1 M.2.2 hF1 sp hSp hSr hp6 r hbr (by rw [nI_cl1 (show p < 1000000 by omega)]; exact hs)
          rw [nI_cl1 (show p < 1000000 by omega)] at g4
          refine x_Ve (ci := 9) (av := [vI (nI p)]) (rest := [vR 14]) (st' := [vR (200 + r), vR 14]) p (3 * p) DX11_passWeek_68 L11_124 rfl rfl rfl rfl rfl ⟨nle rfl, nle rfl, nle rfl⟩ ⟨rfl, by omega⟩ ⟨rfl, by omega⟩ (g4) rfl ?_
          refine x_nmι (fun ι68 e_ι68 => ?_)
          refine x_nmρ (fun ρ68 e_ρ68 => ?_)
          have hF68 := gFix_up hF1 (gst_arr (by decide)) e_ρ68
          refine x_aload_n 0 DX11_passWeek_71 rfl rfl ?_
          refine x_getr 1 (some 2) DX11_passWeek_72 (Or.inr F11_16) rfl rfl (hF68.1 0 1 2 rfl) ?_
          refine x_geti (v := (M.1 2 0)) 0 DX11_passWeek_75 (Or.inl F11_94) rfl rfl (rd1 e_ι68 (by omega)) ?_
          refine x_aload_n 0 DX11_passWeek_78 rfl rfl ?_
          refine x_getr 1 (some 2) DX11_passWeek_79 (Or.inr F11_16) rfl rfl (hF68.1 0 1 2 rfl) ?_
          refine x_geti (v := (M.1 2 1)) 1 DX11_passWeek_82 (Or.inl F11_104) rfl rfl (rd1 e_ι68 (by omega)) ?_
          refine x_Ve (ci := 1) (av := [vR (200 + r), vI (M.1 2 0), vI (M.1 2 1)]) (rest := []) (st' := []) (p + 1) ((3 * p) + 3) DX11_passWeek_85 L11_127 rfl rfl rfl rfl rfl ⟨nle rfl, nle rfl, nle rfl⟩ ⟨rfl, by omega⟩ ⟨rfl, by omega⟩ (x_keep K (M.1 2 0) (M.1 2 1) ι68 ρ68 M.2.2 hF68 r hbr nb (by rw [e_ι68, up2_ne _ _ _ (by omega)]; exact hB) hb (fun h => hfr nb (Nat.le_refl _) h)) rfl ?_
          refine x_nmι (fun ι85 e_ι85 => ?_)
          refine x_nmρ (fun ρ85 e_ρ85 => ?_)
          refine x_nmΛ (fun Λ85 e_Λ85 => ?_)
          refine x_iinc ((nI p) + 1) (lv' := [some (vR 0), some (vI ((nI p) + 1))]) DX11_passWeek_88 rfl rfl (nlt rfl) rfl ?_
          refine x_goto 23 DX11_passWeek_91 (by decide) ?_
          refine x_widen (p + 1) (3 * (p + 1)) (by omega) (by omega) ?_
          refine x_lv (lv' := [some (vR 0), some (vI (nI (p + 1)))]) (lvS (lvI (nI_1 p) rfl)) ?_
          have e : xWk1 p M = (ι85, ρ85, Λ85) := by rw [xWk1, hspe, if_pos ⟨by rw [hs]; exact Option.some_ne_none _, by assumption⟩, hs, hnb, e_ι85, e_ρ85, e_Λ85, e_ι68, e_ρ68]; rfl
          rw [e] at ih
          exact ih
    · generalize hze : fo xWk1 (6 - 0) 0 M = Z at hJ ⊢
      have hZ2 : Z = xWkP M := hze.symm
      show gX K none 4 6 18 jX11_passWeek 23 [some (vR 0), some (vI (nI 6))] [] 6 18 Z.1 Z.2.1 Z.2.2 (fun r2 a b c => r2 = none ∧ a = (xWk (ι, ρ, Λ)).1 ∧ b = (xWk (ι, ρ, Λ)).2.1 ∧ c = (xWk (ι, ρ, Λ)).2.2)
      refine x_iload_n 1 DX11_passWeek_23 rfl rfl ?_
      refine x_bipush 6 DX11_passWeek_24 (by decide) ?_
      refine x_icmp_ge 94 DX11_passWeek_26 (by decide) (fun c_26 => ?_) (fun c_26 => False.elim (c_26 (by rw [show (6 : Int32) = nI 6 from rfl]; exact nI_le (by omega) (by omega))))
      refine x_aload_n 0 DX11_passWeek_94 rfl rfl ?_
      refine x_getr 1 (some 2) DX11_passWeek_95 (Or.inr F11_16) rfl rfl (hJ.1.1 0 1 2 rfl) ?_
      refine x_dup DX11_passWeek_98 ?_
      refine x_geti (v := (Z.1 2 1)) 1 DX11_passWeek_99 (Or.inl F11_104) rfl rfl rfl ?_
      refine x_iconst 1 DX11_passWeek_102 (by decide) ?_
      refine x_iadd DX11_passWeek_103 ?_
      refine x_puti 1 DX11_passWeek_104 F11_104 rfl (Or.inl rfl) rfl (fun ι104 e_ι104 => ?_)
      exact x_return DX11_passWeek_107 rfl ⟨rfl, by rw [hxk, e_ι104, hZ2, hM], by rw [hxk, hZ2, hM], by rw [hxk, hZ2, hM]⟩
  refine x_lv (lv' := [some (vR 0), some (vI (nI 0))]) (lvS (lvI nI_0.symm rfl)) ?_
  rw [e_ι18]
  exact e0 _ rfl
theorem x_weeks (K : gK) (n : Int32) (ι : gIm) (ρ : gRm) (Λ : gLm) (hF : gFix ρ Λ) (wk : Nat) (hW : ι 2 1 = nI wk) (hw : wk ≤ 52) (ht : ∀ k, k < 52 → -1 ≤ ι 3 k ∧ ι 3 k ≤ 9) (hok : okX (ι 2 0) wk (ι 3) (ι, ρ, Λ)) : gCe K 5 312 936 jX11_weeks [vR 0, vI n] ι ρ Λ (some (vI (rs (wr n 1 (52 - nI wk)) (nI wk + n)))) (rsM (wr n 1 (52 - nI wk)) 1 ι (xWks n.toNatClampNeg (ι, ρ, Λ)).1) (sel (wr n 1 (52 - nI wk)) (xWks n.toNatClampNeg (ι, ρ, Λ)).2.1 ρ) (sel (wr n 1 (52 - nI wk)) (xWks n.toNatClampNeg (ι, ρ, Λ)).2.2 Λ) := by
  refine gC_of (by decide) (nle rfl) ?_
  refine x_iload_n 1 DX11_weeks_0 rfl rfl ?_
  refine x_iconst 1 DX11_weeks_1 (by decide) ?_
  refine x_bipush 52 DX11_weeks_2 (by decide) ?_
  refine x_aload_n 0 DX11_weeks_4 rfl rfl ?_
  refine x_getr 1 (some 2) DX11_weeks_5 (Or.inr F11_16) rfl rfl (hF.1 0 1 2 rfl) ?_
  refine x_geti (v := (nI wk)) 1 DX11_weeks_8 (Or.inl F11_104) rfl rfl hW ?_
  refine x_isub DX11_weeks_11 ?_
  refine x_Se (av := [vI n, vI 1, vI (52 - (nI wk))]) (rest := []) (st' := [vI (wr n 1 (52 - (nI wk)))]) 0 0 DX11_weeks_12 L11_83 rfl rfl ⟨nle rfl, nle rfl, nle rfl⟩ ⟨rfl, nle rfl⟩ ⟨rfl, nle rfl⟩ (x_misfit K n 1 (52 - (nI wk)) ι ρ Λ) rfl ?_
  refine x_istore_n 2 (lv' := [some (vR 0), some (vI n), some (vI (wr n 1 (52 - (nI wk)))), none]) DX11_weeks_15 rfl ⟨nlt rfl, nlt rfl⟩ rfl ?_
  refine x_iload_n 2 DX11_weeks_16 rfl rfl ?_
  refine x_if_eq 26 DX11_weeks_17 (by decide) (fun c_17 => ?_) (fun c_17 => ?_)
  · refine x_iconst 0 DX11_weeks_26 (by decide) ?_
    refine x_istore_n 3 (lv' := [some (vR 0), some (vI n), some (vI (wr n 1 (52 - (nI wk)))), some (vI 0)]) DX11_weeks_27 rfl ⟨nlt rfl, nlt rfl⟩ rfl ?_
    obtain ⟨h1n, hn2⟩ := wr0 (by assumption)
    have hnn : ∃ nn, nn ≤ 52 - wk ∧ n = nI nn := by
      rw [show (52 : Int32) = nI 52 from rfl, pk_sub (by omega)] at hn2
      obtain ⟨nn, h3, h4⟩ := nI_of2 (nI_toInt (by omega)) (show ¬ n < 0 by grind) hn2
      exact ⟨nn, h3, h4⟩
    obtain ⟨nn, hnn, hne⟩ := hnn
    have e0 : ∀ M, M = (ι, ρ, Λ) → gX K none 5 312 936 jX11_weeks 28 [some (vR 0), some (vI n), some (vI (wr n 1 (52 - nI wk))), some (vI (nI 0))] [] 0 0 M.1 M.2.1 M.2.2 (fun r2 a b c => r2 = (some (vI (rs (wr n 1 (52 - nI wk)) (nI wk + n)))) ∧ a = (rsM (wr n 1 (52 - nI wk)) 1 ι (xWks n.toNatClampNeg (ι, ρ, Λ)).1) ∧ b = (sel (wr n 1 (52 - nI wk)) (xWks n.toNatClampNeg (ι, ρ, Λ)).2.1 ρ) ∧ c = (sel (wr n 1 (52 - nI wk)) (xWks n.toNatClampNeg (ι, ρ, Λ)).2.2 Λ)) := by
      intro M hM
      have hJ0 : okX (ι 2 0) (wk + 0) (ι 3) M := by rw [hM]; exact hok
      refine lpJ (W := fun (i : Nat) (M : gMm) => gX K none 5 312 936 jX11_weeks 28 [some (vR 0), some (vI n), some (vI (wr n 1 (52 - nI wk))), some (vI (nI i))] [] (6 * i) (18 * i) M.1 M.2.1 M.2.2 (fun r2 a b c => r2 = (some (vI (rs (wr n 1 (52 - nI wk)) (nI wk + n)))) ∧ a = (rsM (wr n 1 (52 - nI wk)) 1 ι (xWks n.toNatClampNeg (ι, ρ, Λ)).1) ∧ b = (sel (wr n 1 (52 - nI wk)) (xWks n.toNatClampNeg (ι, ρ, Λ)).2.1 ρ) ∧ c = (sel (wr n 1 (52 - nI wk)) (xWks n.toNatClampNeg (ι, ρ, Λ)).2.2 Λ))) (fun _ M => xWk M) (fun i M => okX (ι 2 0) (wk + i) (ι 3) M) nn (fun i M hi hJ ih => ?_) (fun i M hi hJ => okX_k hJ) 0 M (by omega) hJ0 (fun hJ => ?_)
      · obtain ⟨hF1, ⟨hy2, hw2, h3⟩, h4⟩ := id hJ
        refine x_iload_n 3 DX11_weeks_28 rfl rfl ?_
        refine x_iload_n 1 DX11_weeks_29 rfl rfl ?_
        refine x_icmp_ge 43 DX11_weeks_30 (by decide) (fun c_30 => False.elim (by rw [hne, nI_le1 (by omega) (by omega)] at c_30; omega)) (fun c_30 => ?_)
        refine x_aload_n 0 DX11_weeks_33 rfl rfl ?_
        refine x_Ve (ci := 11) (av := []) (rest := []) (st' := []) ((6 * i) + 6) ((18 * i) + 18) DX11_weeks_34 L11_107 rfl rfl rfl rfl rfl ⟨nle rfl, nle rfl, nle rfl⟩ ⟨rfl, by omega⟩ ⟨rfl, by omega⟩ (x_passWeek K M.1 M.2.1 M.2.2 hF1 (wk + i) hw2 (by omega) (by rw [h3]; exact ht) (by rw [hy2, h3]; exact hJ)) rfl ?_
        refine x_nmι (fun ι34 e_ι34 => ?_)
        refine x_nmρ (fun ρ34 e_ρ34 => ?_)
        refine x_nmΛ (fun Λ34 e_Λ34 => ?_)
        refine x_iinc ((nI i) + 1) (lv' := [some (vR 0), some (vI n), some (vI (wr n 1 (52 - nI wk))), some (vI ((nI i) + 1))]) DX11_weeks_37 rfl rfl (nlt rfl) rfl ?_
        refine x_goto 28 DX11_weeks_40 (by decide) ?_
        refine x_widen (6 * (i + 1)) (18 * (i + 1)) (by omega) (by omega) ?_
        refine x_lv (lv' := [some (vR 0), some (vI n), some (vI (wr n 1 (52 - nI wk))), some (vI (nI (i + 1)))]) (lvS (lvS (lvS (lvI (nI_1 i) rfl)))) ?_
        rw [e_ι34, e_ρ34, e_Λ34]
        exact ih
      · generalize hze : fo (fun _ M => xWk M) (nn - 0) 0 M = Z at hJ ⊢
        have hZ2 : Z = xWks nn (ι, ρ, Λ) := by rw [← hze, hM]; rfl
        have hq2 := hJ.2.1.2.1
        show gX K none 5 312 936 jX11_weeks 28 [some (vR 0), some (vI n), some (vI (wr n 1 (52 - nI wk))), some (vI (nI nn))] [] (6 * nn) (18 * nn) Z.1 Z.2.1 Z.2.2 (fun r2 a b c => r2 = (some (vI (rs (wr n 1 (52 - nI wk)) (nI wk + n)))) ∧ a = (rsM (wr n 1 (52 - nI wk)) 1 ι (xWks n.toNatClampNeg (ι, ρ, Λ)).1) ∧ b = (sel (wr n 1 (52 - nI wk)) (xWks n.toNatClampNeg (ι, ρ, Λ)).2.1 ρ) ∧ c = (sel (wr n 1 (52 - nI wk)) (xWks n.toNatClampNeg (ι, ρ, Λ)).2.2 Λ))
        refine x_iload_n 3 DX11_weeks_28 rfl rfl ?_
        refine x_iload_n 1 DX11_weeks_29 rfl rfl ?_
        refine x_icmp_ge 43 DX11_weeks_30 (by decide) (fun c_30 => ?_) (fun c_30 => False.elim (c_30 (by rw [hne]; exact nI_le (Nat.le_refl _) (by omega))))
        refine x_aload_n 0 DX11_weeks_43 rfl rfl ?_
        refine x_getr 1 (some 2) DX11_weeks_44 (Or.inr F11_16) rfl rfl (hJ.1.1 0 1 2 rfl) ?_
        refine x_geti (v := (nI (wk + nn))) 1 DX11_weeks_47 (Or.inl F11_104) rfl rfl hq2 ?_
        refine x_widen 312 936 (by omega) (by omega) ?_
        exact x_ireturn DX11_weeks_50 rfl ⟨by rw [rs, if_pos (by assumption), hne, nI_add], by rw [rsM, if_pos (by assumption), hne, nI_cl1 (by omega), hZ2], by rw [sel, if_pos (by assumption), hne, nI_cl1 (by omega), hZ2], by rw [sel, if_pos (by assumption), hne, nI_cl1 (by omega), hZ2]⟩
    refine x_lv (lv' := [some (vR 0), some (vI n), some (vI (wr n 1 (52 - nI wk))), some (vI (nI 0))]) (lvS (lvS (lvS (lvI nI_0.symm rfl)))) ?_
    exact e0 _ rfl
  · refine x_aload_n 0 DX11_weeks_20 rfl rfl ?_
    refine x_iload_n 2 DX11_weeks_21 rfl rfl ?_
    refine x_Ve (ci := 11) (av := [vI (wr n 1 (52 - (nI wk)))]) (rest := []) (st' := [vI (wr n 1 (52 - (nI wk)))]) 0 0 DX11_weeks_22 L11_72 rfl rfl rfl rfl rfl ⟨nle rfl, nle rfl, nle rfl⟩ ⟨rfl, nle rfl⟩ ⟨rfl, nle rfl⟩ (x_refuse K (wr n 1 (52 - (nI wk))) ι ρ Λ hF (wr_in _ _ _ (by assumption))) rfl ?_
    refine x_nmι (fun ι22 e_ι22 => ?_)
    refine x_widen 312 936 (nle rfl) (nle rfl) ?_
    exact x_ireturn DX11_weeks_25 rfl ⟨by grind [rs], by grind [rsM], by grind [sel], by grind [sel]⟩
