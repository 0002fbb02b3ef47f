/-! the class, XX: the row, II -/
theorem x_firstOfBest (K : gK) (k : Nat) (ι : gIm) (ρ : gRm) (Λ : gLm) (hF : gFix ρ Λ) (n ld tn : Nat) (P A H : Nat → Nat) (hOk : okP ι n ld tn P A H) (hRw : ∀ j, j < k → ι 28 j = nI (rwI ι j) ∧ rwI ι j < 8) (hDn : ∀ j, j ≤ k → ι 29 j = nI (dnI ι j) ∧ dnI ι j < 256) (hOp : ∀ S, S < 256 → ι 27 S = nI (opR ι S) ∧ opR ι S < 256) (hk : k < 8) (hDk : dnI ι k < 2 ^ n) : gCe K 4 0 0 jX5_firstOfBest [vR 22, vI (nI k)] ι ρ Λ (some (vI (nI (fbN ι ld tn P A H k n 0)))) ι ρ Λ := by
  refine gC_of (by decide) (nle rfl) ?_
  obtain ⟨hN, hn, hld, htn, hl8, ht8, hPl, hAf, hHg, h2n⟩ := id hOk
  refine x_iconst 0 DX5_firstOfBest_0 (by decide) ?_
  refine x_istore_n 2 (lv' := [some (vR 22), some (vI (nI k)), some (vI 0), none]) DX5_firstOfBest_1 rfl ⟨nlt rfl, nlt rfl⟩ rfl ?_
  refine x_aload_n 0 DX5_firstOfBest_2 rfl rfl ?_
  refine x_geti (v := (nI n)) 9 DX5_firstOfBest_3 (Or.inl F5_51) rfl rfl hN ?_
  refine x_iconst 1 DX5_firstOfBest_6 (by decide) ?_
  refine x_isub DX5_firstOfBest_7 ?_
  refine x_istore_n 3 (lv' := [some (vR 22), some (vI (nI k)), some (vI 0), some (vI ((nI n) - 1))]) DX5_firstOfBest_8 rfl ⟨nlt rfl, nlt rfl⟩ rfl ?_
  have loop : ∀ (s a : Nat), s ≤ n → fbN ι ld tn P A H k s a = fbN ι ld tn P A H k n 0 → gX K none 4 0 0 jX5_firstOfBest 9 [some (vR 22), some (vI (nI k)), some (vI (nI a)), some (vI ((nI s) + (-1)))] [] 0 0 ι ρ Λ (fun r2 a b c => r2 = (some (vI (nI (fbN ι ld tn P A H k n 0)))) ∧ a = ι ∧ b = ρ ∧ c = Λ) := by
    intro s
    induction s with
    | zero =>
      intro a hs he
      refine x_iload_n 3 DX5_firstOfBest_9 rfl rfl ?_
      refine x_if_lt 50 DX5_firstOfBest_10 (by decide) (fun c_10 => ?_) (fun c_10 => False.elim (c_10 (by decide)))
      refine x_iload_n 2 DX5_firstOfBest_50 rfl rfl ?_
      exact x_ireturn DX5_firstOfBest_51 rfl ⟨by rw [← he]; rfl, rfl, rfl, rfl⟩
    | succ s ih =>
      intro a hs he
      rw [fbN] at he
      refine x_lv (lv' := [some (vR 22), some (vI (nI k)), some (vI (nI a)), some (vI (nI s))]) (lvS (lvS (lvS (lvI (pk_m1 s) rfl)))) ?_
      refine x_iload_n 3 DX5_firstOfBest_9 rfl rfl ?_
      refine x_if_lt 50 DX5_firstOfBest_10 (by decide) (fun c_10 => False.elim ((nI_pos (by omega)) c_10)) (fun c_10 => ?_)
      refine x_aload_n 0 DX5_firstOfBest_13 rfl rfl ?_
      refine x_aload_n 0 DX5_firstOfBest_14 rfl rfl ?_
      refine x_getr 7 (some 29) DX5_firstOfBest_15 (Or.inr F5_30) rfl rfl (hF.1 22 7 29 rfl) ?_
      refine x_iload_n 1 DX5_firstOfBest_18 rfl rfl ?_
      refine x_iald (v := (nI (dnI ι k))) k (nI_cl1 (by omega)) DX5_firstOfBest_19 rfl (gIn.fx hF (c := 29) (n := 9) rfl (gIn_nI (by omega) (by omega))) ((hDn k (by omega)).1) ?_
      refine x_iload_n 3 DX5_firstOfBest_20 rfl rfl ?_
      refine x_Ve (ci := 5) (av := [vI (nI (dnI ι k)), vI (nI s)]) (rest := []) (st' := [vI (b2i (mayI ι ld tn P A H (dnI ι k) s = true))]) 0 0 DX5_firstOfBest_21 L5_102 rfl rfl rfl rfl rfl ⟨nle rfl, nle rfl, nle rfl⟩ ⟨rfl, nle rfl⟩ ⟨rfl, nle rfl⟩ (x_may K (dnI ι k) s ι ρ Λ hF n hN hn ld tn hld htn hl8 ht8 P A H hPl hAf hHg h2n hDk (by omega)) rfl ?_
      refine x_if_eq_b 44 DX5_firstOfBest_24 (by decide) (fun c_24 => ?_) (fun c_24 => ?_)
      · refine x_iinc ((nI s) + (-1)) (lv' := [some (vR 22), some (vI (nI k)), some (vI (nI a)), some (vI ((nI s) + (-1)))]) DX5_firstOfBest_44 rfl rfl (nlt rfl) rfl ?_
        refine x_goto 9 DX5_firstOfBest_47 (by decide) ?_
        exact ih _ (by omega) (by rw [if_neg (by grind)] at he; exact he)
      · refine x_aload_n 0 DX5_firstOfBest_27 rfl rfl ?_
        refine x_iload_n 1 DX5_firstOfBest_28 rfl rfl ?_
        refine x_iload_n 3 DX5_firstOfBest_29 rfl rfl ?_
        refine x_Ve (ci := 5) (av := [vI (nI k), vI (nI s)]) (rest := []) (st' := [vI (dwI ι k s)]) 0 0 DX5_firstOfBest_30 L5_127 rfl rfl rfl rfl rfl ⟨nle rfl, nle rfl, nle rfl⟩ ⟨rfl, nle rfl⟩ ⟨rfl, nle rfl⟩ (x_daysWith K k s ι ρ Λ hF hRw hDn hOp hk (by omega)) rfl ?_
        refine x_aload_n 0 DX5_firstOfBest_33 rfl rfl ?_
        refine x_getr 4 (some 26) DX5_firstOfBest_34 (Or.inr F5_21) rfl rfl (hF.1 22 4 26 rfl) ?_
        refine x_iconst 0 DX5_firstOfBest_37 (by decide) ?_
        refine x_iald (v := (ι 26 0)) 0 rfl DX5_firstOfBest_38 rfl (gIn.fx hF (c := 26) (n := 256) rfl (⟨by decide, by decide⟩)) rfl ?_
        refine x_icmp_ne 44 DX5_firstOfBest_39 (by decide) (fun c_39 => ?_) (fun c_39 => ?_)
        · refine x_iinc ((nI s) + (-1)) (lv' := [some (vR 22), some (vI (nI k)), some (vI (nI a)), some (vI ((nI s) + (-1)))]) DX5_firstOfBest_44 rfl rfl (nlt rfl) rfl ?_
          refine x_goto 9 DX5_firstOfBest_47 (by decide) ?_
          exact ih _ (by omega) (by rw [if_neg (by grind)] at he; exact he)
        · refine x_iload_n 3 DX5_firstOfBest_42 rfl rfl ?_
          refine x_istore_n 2 (lv' := [some (vR 22), some (vI (nI k)), some (vI (nI s)), some (vI (nI s))]) DX5_firstOfBest_43 rfl ⟨nlt rfl, nlt rfl⟩ rfl ?_
          refine x_iinc ((nI s) + (-1)) (lv' := [some (vR 22), some (vI (nI k)), some (vI (nI s)), some (vI ((nI s) + (-1)))]) DX5_firstOfBest_44 rfl rfl (nlt rfl) rfl ?_
          refine x_goto 9 DX5_firstOfBest_47 (by decide) ?_
          exact ih _ (by omega) (by rw [if_pos ⟨by assumption, by assumption⟩] at he; exact he)
  refine x_lv (lv' := [some (vR 22), some (vI (nI k)), some (vI (nI 0)), some (vI ((nI n) + (-1)))]) (lvS (lvS (lvI nI_0.symm (lvI (by grind) rfl)))) ?_
  exact loop n 0 (Nat.le_refl _) rfl
theorem x_chooseRow (K : gK)  (ι : gIm) (ρ : gRm) (Λ : gLm) (hF : gFix ρ Λ) (n ld tn : Nat) (P A H : Nat → Nat) (hOk : okP ι n ld tn P A H) (hR0 : okR ι n 0) : gCe K 5 0 0 jX5_chooseRow [vR 22] ι ρ Λ none (xCh n ld tn P A H ι) ρ Λ := by
  refine gC_of (by decide) (nle rfl) ?_
  obtain ⟨hN, hn, hld, htn, hl8, ht8, hPl, hAf, hHg, h2n⟩ := id hOk
  refine x_iconst 0 DX5_chooseRow_0 (by decide) ?_
  refine x_istore_n 1 (lv' := [some (vR 22), some (vI 0), none]) DX5_chooseRow_1 rfl ⟨nlt rfl, nlt rfl⟩ rfl ?_
  refine x_lv (lv' := [some (vR 22), some (vI (nI 0)), none]) (lvS (lvI nI_0.symm rfl)) ?_
  refine lpJ (W := fun (k : Nat) (z : gIm) => gX K none 5 0 0 jX5_chooseRow 2 [some (vR 22), some (vI (nI k)), none] [] 0 0 z ρ Λ (fun r2 a b c => r2 = none ∧ a = (xCh n ld tn P A H ι) ∧ b = ρ ∧ c = Λ)) (xCh1 n ld tn P A H) (fun k z => okR z n k ∧ okP z n ld tn P A H) n (fun k z hk hJ ih => ?_) (fun k z hk hJ => ⟨okR_1 hJ.1 hk hn, okP_1 hJ.2⟩) 0 ι (by omega) ⟨hR0, hOk⟩ (fun hJ => ?_)
  · obtain ⟨hJ1, hJ2⟩ := id hJ
    have hf := fbN_lt z ld tn P A H k n n 0 (Nat.le_refl _) (by omega)
    have hd2 := hJ1.2.1 k (Nat.le_refl _)
    have hNz := hJ2.1
    generalize hfe : fbN z ld tn P A H k n 0 = f at hf
    refine x_iload_n 1 DX5_chooseRow_2 rfl rfl ?_
    refine x_aload_n 0 DX5_chooseRow_3 rfl rfl ?_
    refine x_geti (v := (nI n)) 9 DX5_chooseRow_4 (Or.inl F5_51) rfl rfl hNz ?_
    refine x_icmp_ge 60 DX5_chooseRow_7 (by decide) (fun c_7 => False.elim (by rw [nI_le1 (by omega) (by omega)] at c_7; omega)) (fun c_7 => ?_)
    refine x_aload_n 0 DX5_chooseRow_10 rfl rfl ?_
    refine x_iload_n 1 DX5_chooseRow_11 rfl rfl ?_
    have g1 := x_firstOfBest K k z ρ Λ hF n ld tn P A H hJ2 (fun j h => ⟨(hJ1.1 j h).1, by have := (hJ1.1 j h).2; omega⟩) (fun j h => ⟨(hJ1.2.1 j h).1, by have := (hJ1.2.1 j h).2; omega⟩) hJ1.2.2 (by omega) hd2.2
    rw [hfe] at g1
    refine x_Ve (ci := 5) (av := [vI (nI k)]) (rest := []) (st' := [vI (nI f)]) 0 0 DX5_chooseRow_12 L5_121 rfl rfl rfl rfl rfl ⟨nle rfl, nle rfl, nle rfl⟩ ⟨rfl, nle rfl⟩ ⟨rfl, nle rfl⟩ (g1) rfl ?_
    refine x_istore_n 2 (lv' := [some (vR 22), some (vI (nI k)), some (vI (nI f))]) DX5_chooseRow_15 rfl ⟨nlt rfl, nlt rfl⟩ rfl ?_
    refine x_aload_n 0 DX5_chooseRow_16 rfl rfl ?_
    refine x_getr 6 (some 28) DX5_chooseRow_17 (Or.inr F5_27) rfl rfl (hF.1 22 6 28 rfl) ?_
    refine x_iload_n 1 DX5_chooseRow_20 rfl rfl ?_
    refine x_iload_n 2 DX5_chooseRow_21 rfl rfl ?_
    refine x_iast k (nI_cl1 (by omega)) DX5_chooseRow_22 rfl (gIn.fx hF (c := 28) (n := 8) rfl (gIn_nI (by omega) (by omega))) (fun ι22 e_ι22 => ?_)
    refine x_aload_n 0 DX5_chooseRow_23 rfl rfl ?_
    refine x_getr 7 (some 29) DX5_chooseRow_24 (Or.inr F5_30) rfl rfl (hF.1 22 7 29 rfl) ?_
    refine x_iload_n 1 DX5_chooseRow_27 rfl rfl ?_
    refine x_iconst 1 DX5_chooseRow_28 (by decide) ?_
    refine x_iadd DX5_chooseRow_29 ?_
    rw [nI_1]
    refine x_aload_n 0 DX5_chooseRow_30 rfl rfl ?_
    refine x_getr 7 (some 29) DX5_chooseRow_31 (Or.inr F5_30) rfl rfl (hF.1 22 7 29 rfl) ?_
    refine x_iload_n 1 DX5_chooseRow_34 rfl rfl ?_
    refine x_iald (v := (nI (dnI z k))) k (nI_cl1 (by omega)) DX5_chooseRow_35 rfl (gIn.fx hF (c := 29) (n := 9) rfl (gIn_nI (by omega) (by omega))) ((rd1 e_ι22 (by decide)).trans hd2.1) ?_
    refine x_iconst 1 DX5_chooseRow_36 (by decide) ?_
    refine x_iload_n 2 DX5_chooseRow_37 rfl rfl ?_
    refine x_ishl DX5_chooseRow_38 ?_
    rw [nI_shl f (by omega)]
    refine x_ior DX5_chooseRow_39 ?_
    rw [nI_or]
    refine x_iast (k + 1) (nI_cl1 (by omega)) DX5_chooseRow_40 rfl (gIn.fx hF (c := 29) (n := 9) rfl (gIn_nI (by omega) (by omega))) (fun ι40 e_ι40 => ?_)
    refine x_aload_n 0 DX5_chooseRow_41 rfl rfl ?_
    refine x_getr 8 (some 30) DX5_chooseRow_42 (Or.inr F5_33) rfl rfl (hF.1 22 8 30 rfl) ?_
    refine x_iload_n 1 DX5_chooseRow_45 rfl rfl ?_
    refine x_iconst 1 DX5_chooseRow_46 (by decide) ?_
    refine x_iadd DX5_chooseRow_47 ?_
    rw [nI_1]
    refine x_aload_n 0 DX5_chooseRow_48 rfl rfl ?_
    refine x_iload_n 1 DX5_chooseRow_49 rfl rfl ?_
    have ez : ι40 = up2 (up2 z 28 k (nI f)) 29 (k + 1) (nI (dnI z k ||| 2 ^ f)) := by subst_vars; rfl
    have hO3 := okR_2 hJ1 hf hn ι40 ez
    have g2 := x_spentWith K k ι40 ρ Λ hF (fun j h => ⟨(hO3.1 j (by omega)).1, by have := (hO3.1 j (by omega)).2; omega⟩) (fun j h => ⟨(hO3.2.1 j (by omega)).1, by have := (hO3.2.1 j (by omega)).2; omega⟩) hO3.2.2 (by omega)
    refine x_Ve (ci := 5) (av := [vI (nI k)]) (rest := [vI (nI (k + 1)), vR 30]) (st' := [vI (swI ι40 k), vI (nI (k + 1)), vR 30]) 0 0 DX5_chooseRow_50 L5_124 rfl rfl rfl rfl rfl ⟨nle rfl, nle rfl, nle rfl⟩ ⟨rfl, nle rfl⟩ ⟨rfl, nle rfl⟩ (g2) rfl ?_
    refine x_iast (k + 1) (nI_cl1 (by omega)) DX5_chooseRow_53 rfl (gIn.fx hF (c := 30) (n := 9) rfl (gIn_nI (by omega) (by omega))) (fun ι53 e_ι53 => ?_)
    refine x_iinc ((nI k) + 1) (lv' := [some (vR 22), some (vI ((nI k) + 1)), some (vI (nI f))]) DX5_chooseRow_54 rfl rfl (nlt rfl) rfl ?_
    refine x_goto 2 DX5_chooseRow_57 (by decide) ?_
    refine x_less (lv' := [some (vR 22), some (vI ((nI k) + 1)), none]) (less_ok (m := [true, true, false]) rfl) ?_
    refine x_lv (lv' := [some (vR 22), some (vI (nI (k + 1))), none]) (lvS (lvI (nI_1 k) (lvS rfl))) ?_
    have e : xCh1 n ld tn P A H k z = ι53 := by { have e1 : xCh1 n ld tn P A H k z = up2 (up2 (up2 z 28 k (nI f)) 29 (k + 1) (nI (dnI z k ||| 2 ^ f))) 30 (k + 1) (swI (up2 (up2 z 28 k (nI f)) 29 (k + 1) (nI (dnI z k ||| 2 ^ f))) k) := (by rw [← hfe]; rfl); rw [e1, e_ι53, ← ez] }
    rw [e] at ih
    exact ih
  · have hx : fo (xCh1 n ld tn P A H) (n - 0) 0 ι = xCh n ld tn P A H ι := rfl
    rw [hx] at hJ ⊢
    refine x_iload_n 1 DX5_chooseRow_2 rfl rfl ?_
    refine x_aload_n 0 DX5_chooseRow_3 rfl rfl ?_
    refine x_geti (v := (nI n)) 9 DX5_chooseRow_4 (Or.inl F5_51) rfl rfl hJ.2.1 ?_
    refine x_icmp_ge 60 DX5_chooseRow_7 (by decide) (fun c_7 => ?_) (fun c_7 => False.elim (c_7 (nI_le (by omega) (by omega))))
    exact x_return DX5_chooseRow_60 rfl ⟨rfl, rfl, rfl, rfl⟩
