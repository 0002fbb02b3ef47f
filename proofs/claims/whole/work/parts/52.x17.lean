/-! the class, XVII: the days that are left -/
theorem x_restFrom (K : gK) (S o : Nat) (ι : gIm) (ρ : gRm) (Λ : gLm) (hF : gFix ρ Λ) (n ld tn : Nat) (P A H : Nat → Nat) (hOk : okP ι n ld tn P A H) (hS : S < 2 ^ n) (hO : ι 27 S = nI o) (ho : o < 256) : gCe K 4 0 0 jX5_restFrom [vR 22, vI (nI S)] ι ρ Λ (some (vI (rfI ι n ld tn P A H S o))) ι ρ Λ := by
  refine gC_of (by decide) (nle rfl) ?_
  obtain ⟨hN, hn, hld, htn, hl8, ht8, hPl, hAf, hHg, h2n⟩ := id hOk
  refine x_ldc DX5_restFrom_0 gw3_236 ?_
  refine x_istore_n 2 (lv' := [some (vR 22), some (vI (nI S)), some (vI 1000000), none, none]) DX5_restFrom_2 rfl ⟨nlt rfl, nlt rfl⟩ rfl ?_
  refine x_iconst 0 DX5_restFrom_3 (by decide) ?_
  refine x_istore_n 3 (lv' := [some (vR 22), some (vI (nI S)), some (vI 1000000), some (vI 0), none]) DX5_restFrom_4 rfl ⟨nlt rfl, nlt rfl⟩ rfl ?_
  refine x_lv (lv' := [some (vR 22), some (vI (nI S)), some (vI 1000000), some (vI (nI 0)), none]) (lvS (lvS (lvS (lvI nI_0.symm rfl)))) ?_
  refine lp0 (W := fun i l => gX K none 4 0 0 jX5_restFrom 5 [some (vR 22), some (vI (nI S)), some (vI l), some (vI (nI i)), none] [] 0 0 ι ρ Λ _) (rfI1 ι ld tn P A H S o) n (fun i l hi ih => ?_) 0 1000000 (by omega) ?_
  · refine x_iload_n 3 DX5_restFrom_5 rfl rfl ?_
    refine x_aload_n 0 DX5_restFrom_6 rfl rfl ?_
    refine x_geti (v := (nI n)) 9 DX5_restFrom_7 (Or.inl F5_51) rfl rfl hN ?_
    refine x_icmp_ge 73 DX5_restFrom_10 (by decide) (fun c_10 => False.elim (by rw [nI_le1 (by omega) (by omega)] at c_10; omega)) (fun c_10 => ?_)
    refine x_aload_n 0 DX5_restFrom_13 rfl rfl ?_
    refine x_iload_n 1 DX5_restFrom_14 rfl rfl ?_
    refine x_iload_n 3 DX5_restFrom_15 rfl rfl ?_
    refine x_Ve (ci := 5) (av := [vI (nI S), vI (nI i)]) (rest := []) (st' := [vI (b2i (mayI ι ld tn P A H S i = true))]) 0 0 DX5_restFrom_16 L5_102 rfl rfl rfl rfl rfl ⟨nle rfl, nle rfl, nle rfl⟩ ⟨rfl, nle rfl⟩ ⟨rfl, nle rfl⟩ (x_may K S i ι ρ Λ hF n hN hn ld tn hld htn hl8 ht8 P A H hPl hAf hHg h2n hS hi) rfl ?_
    refine x_if_eq_b 67 DX5_restFrom_19 (by decide) (fun c_19 => ?_) (fun c_19 => ?_)
    · refine x_iinc ((nI i) + 1) (lv' := [some (vR 22), some (vI (nI S)), some (vI l), some (vI ((nI i) + 1)), none]) DX5_restFrom_67 rfl rfl (nlt rfl) rfl ?_
      refine x_goto 5 DX5_restFrom_70 (by decide) ?_
      refine x_lv (lv' := [some (vR 22), some (vI (nI S)), some (vI (rfI1 ι ld tn P A H S o i l)), some (vI (nI (i + 1))), none]) (lvS (lvS (lvI (by unfold rfI1; rw [if_neg (by assumption)]) (lvI (nI_1 i) (lvS rfl))))) ?_
      exact ih
    · refine x_aload_n 0 DX5_restFrom_22 rfl rfl ?_
      refine x_getr 0 (some 16) DX5_restFrom_23 (Or.inr F5_46) rfl rfl (hF.1 22 0 16 rfl) ?_
      refine x_getr 0 (some 17) DX5_restFrom_26 (Or.inr F5_77) rfl rfl (hF.1 16 0 17 rfl) ?_
      refine x_iload_n 3 DX5_restFrom_29 rfl rfl ?_
      refine x_iald (v := (ι 17 i)) i (nI_cl1 (by omega)) DX5_restFrom_30 rfl (gIn.fx hF (c := 17) (n := 12) rfl (gIn_nI (by omega) (by omega))) rfl ?_
      refine x_iconst 2 DX5_restFrom_31 (by decide) ?_
      refine x_icmp_ne 49 DX5_restFrom_32 (by decide) (fun c_32 => ?_) (fun c_32 => ?_)
      · refine x_iconst 0 DX5_restFrom_49 (by decide) ?_
        refine x_istore (lv' := [some (vR 22), some (vI (nI S)), some (vI l), some (vI (nI i)), some (vI 0)]) DX5_restFrom_50 ⟨nlt rfl, nlt rfl⟩ rfl ?_
        refine x_iload_n 2 DX5_restFrom_52 rfl rfl ?_
        refine x_aload_n 0 DX5_restFrom_53 rfl rfl ?_
        refine x_iload_n 1 DX5_restFrom_54 rfl rfl ?_
        refine x_iconst 1 DX5_restFrom_55 (by decide) ?_
        refine x_iload_n 3 DX5_restFrom_56 rfl rfl ?_
        refine x_ishl DX5_restFrom_57 ?_
        rw [nI_shl i (by omega)]
        refine x_iload DX5_restFrom_58 rfl ?_
        have g5 := x_restGrouped K S (2 ^ i) 0 ι ρ Λ hF (by omega) (two8 (by omega)) (by omega)
        rw [nI_0] at g5
        refine x_Ve (ci := 5) (av := [vI (nI S), vI (nI (2 ^ i)), vI 0]) (rest := [vI l]) (st' := [vI (rgI ι S (2 ^ i) 0), vI l]) 0 0 DX5_restFrom_60 L5_106 rfl rfl rfl rfl rfl ⟨nle rfl, nle rfl, nle rfl⟩ ⟨rfl, nle rfl⟩ ⟨rfl, nle rfl⟩ (g5) rfl ?_
        refine x_Se (av := [vI l, vI (rgI ι S (2 ^ i) 0)]) (rest := []) (st' := [vI (imin l (rgI ι S (2 ^ i) 0))]) 0 0 DX5_restFrom_63 L5_110 rfl rfl ⟨nle rfl, nle rfl, nle rfl⟩ ⟨rfl, nle rfl⟩ ⟨rfl, nle rfl⟩ (j_min K l (rgI ι S (2 ^ i) 0) ι ρ Λ) rfl ?_
        refine x_istore_n 2 (lv' := [some (vR 22), some (vI (nI S)), some (vI (imin l (rgI ι S (2 ^ i) 0))), some (vI (nI i)), some (vI 0)]) DX5_restFrom_66 rfl ⟨nlt rfl, nlt rfl⟩ rfl ?_
        refine x_iinc ((nI i) + 1) (lv' := [some (vR 22), some (vI (nI S)), some (vI (imin l (rgI ι S (2 ^ i) 0))), some (vI ((nI i) + 1)), some (vI 0)]) DX5_restFrom_67 rfl rfl (nlt rfl) rfl ?_
        refine x_goto 5 DX5_restFrom_70 (by decide) ?_
        refine x_lv (lv' := [some (vR 22), some (vI (nI S)), some (vI (rfI1 ι ld tn P A H S o i l)), some (vI (nI (i + 1))), some (vI 0)]) (lvS (lvS (lvI (by unfold rfI1; rw [if_pos (by assumption), otN, if_neg (by assumption)]) (lvI (nI_1 i) (lvS rfl))))) ?_
        refine x_less (lv' := [some (vR 22), some (vI (nI S)), some (vI (rfI1 ι ld tn P A H S o i l)), some (vI (nI (i + 1))), none]) (less_ok (m := [true, true, true, true, false]) rfl) ?_
        exact ih
      · refine x_aload_n 0 DX5_restFrom_35 rfl rfl ?_
        refine x_getr 5 (some 27) DX5_restFrom_36 (Or.inr F5_24) rfl rfl (hF.1 22 5 27 rfl) ?_
        refine x_iload_n 1 DX5_restFrom_39 rfl rfl ?_
        refine x_iald (v := (nI o)) S (nI_cl1 (by omega)) DX5_restFrom_40 rfl (gIn.fx hF (c := 27) (n := 256) rfl (gIn_nI (by omega) (by omega))) hO ?_
        refine x_iconst 2 DX5_restFrom_41 (by decide) ?_
        refine x_iload_n 3 DX5_restFrom_42 rfl rfl ?_
        refine x_ishl DX5_restFrom_43 ?_
        refine x_ineg DX5_restFrom_44 ?_
        refine x_iand DX5_restFrom_45 ?_
        rw [nI_neg2 i (by omega) o ho]
        refine x_goto 50 DX5_restFrom_46 (by decide) ?_
        refine x_istore (lv' := [some (vR 22), some (vI (nI S)), some (vI l), some (vI (nI i)), some (vI (nI (o &&& (256 - 2 ^ (i + 1)))))]) DX5_restFrom_50 ⟨nlt rfl, nlt rfl⟩ rfl ?_
        refine x_iload_n 2 DX5_restFrom_52 rfl rfl ?_
        refine x_aload_n 0 DX5_restFrom_53 rfl rfl ?_
        refine x_iload_n 1 DX5_restFrom_54 rfl rfl ?_
        refine x_iconst 1 DX5_restFrom_55 (by decide) ?_
        refine x_iload_n 3 DX5_restFrom_56 rfl rfl ?_
        refine x_ishl DX5_restFrom_57 ?_
        rw [nI_shl i (by omega)]
        refine x_iload DX5_restFrom_58 rfl ?_
        refine x_Ve (ci := 5) (av := [vI (nI S), vI (nI (2 ^ i)), vI (nI (o &&& (256 - 2 ^ (i + 1))))]) (rest := [vI l]) (st' := [vI (rgI ι S (2 ^ i) (o &&& (256 - 2 ^ (i + 1)))), vI l]) 0 0 DX5_restFrom_60 L5_106 rfl rfl rfl rfl rfl ⟨nle rfl, nle rfl, nle rfl⟩ ⟨rfl, nle rfl⟩ ⟨rfl, nle rfl⟩ (x_restGrouped K S (2 ^ i) (o &&& (256 - 2 ^ (i + 1))) ι ρ Λ hF (by omega) (two8 (by omega)) (and_lt ho)) rfl ?_
        refine x_Se (av := [vI l, vI (rgI ι S (2 ^ i) (o &&& (256 - 2 ^ (i + 1))))]) (rest := []) (st' := [vI (imin l (rgI ι S (2 ^ i) (o &&& (256 - 2 ^ (i + 1)))))]) 0 0 DX5_restFrom_63 L5_110 rfl rfl ⟨nle rfl, nle rfl, nle rfl⟩ ⟨rfl, nle rfl⟩ ⟨rfl, nle rfl⟩ (j_min K l (rgI ι S (2 ^ i) (o &&& (256 - 2 ^ (i + 1)))) ι ρ Λ) rfl ?_
        refine x_istore_n 2 (lv' := [some (vR 22), some (vI (nI S)), some (vI (imin l (rgI ι S (2 ^ i) (o &&& (256 - 2 ^ (i + 1)))))), some (vI (nI i)), some (vI (nI (o &&& (256 - 2 ^ (i + 1)))))]) DX5_restFrom_66 rfl ⟨nlt rfl, nlt rfl⟩ rfl ?_
        refine x_iinc ((nI i) + 1) (lv' := [some (vR 22), some (vI (nI S)), some (vI (imin l (rgI ι S (2 ^ i) (o &&& (256 - 2 ^ (i + 1)))))), some (vI ((nI i) + 1)), some (vI (nI (o &&& (256 - 2 ^ (i + 1)))))]) DX5_restFrom_67 rfl rfl (nlt rfl) rfl ?_
        refine x_goto 5 DX5_restFrom_70 (by decide) ?_
        refine x_lv (lv' := [some (vR 22), some (vI (nI S)), some (vI (rfI1 ι ld tn P A H S o i l)), some (vI (nI (i + 1))), some (vI (nI (o &&& (256 - 2 ^ (i + 1)))))]) (lvS (lvS (lvI (by unfold rfI1; rw [if_pos (by assumption), otN, if_pos (by assumption)]) (lvI (nI_1 i) (lvS rfl))))) ?_
        refine x_less (lv' := [some (vR 22), some (vI (nI S)), some (vI (rfI1 ι ld tn P A H S o i l)), some (vI (nI (i + 1))), none]) (less_ok (m := [true, true, true, true, false]) rfl) ?_
        exact ih
  · show gX K none 4 0 0 jX5_restFrom 5 [some (vR 22), some (vI (nI S)), some (vI (rfI ι n ld tn P A H S o)), some (vI (nI n)), none] [] 0 0 ι ρ Λ _
    refine x_iload_n 3 DX5_restFrom_5 rfl rfl ?_
    refine x_aload_n 0 DX5_restFrom_6 rfl rfl ?_
    refine x_geti (v := (nI n)) 9 DX5_restFrom_7 (Or.inl F5_51) rfl rfl hN ?_
    refine x_icmp_ge 73 DX5_restFrom_10 (by decide) (fun c_10 => ?_) (fun c_10 => False.elim (c_10 (nI_le (by omega) (by omega))))
    refine x_iload_n 2 DX5_restFrom_73 rfl rfl ?_
    exact x_ireturn DX5_restFrom_74 rfl ⟨rfl, rfl, rfl, rfl⟩
theorem x_measure (K : gK)  (ι : gIm) (ρ : gRm) (Λ : gLm) (hF : gFix ρ Λ) (n ld tn : Nat) (P A H : Nat → Nat) (hOk : okP ι n ld tn P A H) : gCe K 5 0 0 jX5_measureRests [vR 22] ι ρ Λ none (xMe n ld tn P A H ι) ρ Λ := by
  refine gC_of (by decide) (nle rfl) ?_
  obtain ⟨hN, hn, hld, htn, hl8, ht8, hPl, hAf, hHg, h2n⟩ := id hOk
  have h2p := Nat.two_pow_pos n
  refine x_iconst 1 DX5_measureRests_0 (by decide) ?_
  refine x_aload_n 0 DX5_measureRests_1 rfl rfl ?_
  refine x_geti (v := (nI n)) 9 DX5_measureRests_2 (Or.inl F5_51) rfl rfl hN ?_
  refine x_ishl DX5_measureRests_5 ?_
  rw [nI_shl n (by omega)]
  refine x_iconst 1 DX5_measureRests_6 (by decide) ?_
  refine x_isub DX5_measureRests_7 ?_
  rw [show (1 : Int32) = nI 1 from rfl, pk_sub (by omega)]
  refine x_istore_n 1 (lv' := [some (vR 22), some (vI (nI (2 ^ n - 1))), none]) DX5_measureRests_8 rfl ⟨nlt rfl, nlt rfl⟩ rfl ?_
  refine x_aload_n 0 DX5_measureRests_9 rfl rfl ?_
  refine x_getr 4 (some 26) DX5_measureRests_10 (Or.inr F5_21) rfl rfl (hF.1 22 4 26 rfl) ?_
  refine x_iload_n 1 DX5_measureRests_13 rfl rfl ?_
  refine x_iconst 0 DX5_measureRests_14 (by decide) ?_
  refine x_iast (2 ^ n - 1) (nI_cl1 (by omega)) DX5_measureRests_15 rfl (gIn.fx hF (c := 26) (n := 256) rfl (gIn_nI (by omega) (by omega))) (fun ι15 e_ι15 => ?_)
  refine x_iload_n 1 DX5_measureRests_16 rfl rfl ?_
  refine x_iconst 1 DX5_measureRests_17 (by decide) ?_
  refine x_isub DX5_measureRests_18 ?_
  refine x_istore_n 2 (lv' := [some (vR 22), some (vI (nI (2 ^ n - 1))), some (vI ((nI (2 ^ n - 1)) - 1))]) DX5_measureRests_19 rfl ⟨nlt rfl, nlt rfl⟩ rfl ?_
  have loop : ∀ (k : Nat) (z : gIm), k ≤ (2 ^ n - 1) → okP z n ld tn P A H → xMeN n ld tn P A H k z = xMe n ld tn P A H ι → gX K none 5 0 0 jX5_measureRests 20 [some (vR 22), some (vI (nI (2 ^ n - 1))), some (vI ((nI k) + (-1)))] [] 0 0 z ρ Λ (fun r2 a b c => r2 = none ∧ a = (xMe n ld tn P A H ι) ∧ b = ρ ∧ c = Λ) := by
    intro k
    induction k with
    | zero =>
      intro z hk hOz he
      refine x_iload_n 2 DX5_measureRests_20 rfl rfl ?_
      refine x_if_lt 52 DX5_measureRests_21 (by decide) (fun c_21 => ?_) (fun c_21 => False.elim (c_21 (by decide)))
      exact x_return DX5_measureRests_52 rfl ⟨rfl, he, rfl, rfl⟩
    | succ k ih =>
      intro z hk hOz he
      rw [xMeN] at he
      refine x_lv (lv' := [some (vR 22), some (vI (nI (2 ^ n - 1))), some (vI (nI k))]) (lvS (lvS (lvI (pk_m1 k) rfl))) ?_
      have hOz2 := opI_lt z n ld tn P A H k
      refine x_iload_n 2 DX5_measureRests_20 rfl rfl ?_
      refine x_if_lt 52 DX5_measureRests_21 (by decide) (fun c_21 => False.elim ((nI_pos (by omega)) c_21)) (fun c_21 => ?_)
      refine x_aload_n 0 DX5_measureRests_24 rfl rfl ?_
      refine x_getr 5 (some 27) DX5_measureRests_25 (Or.inr F5_24) rfl rfl (hF.1 22 5 27 rfl) ?_
      refine x_iload_n 2 DX5_measureRests_28 rfl rfl ?_
      refine x_aload_n 0 DX5_measureRests_29 rfl rfl ?_
      refine x_iload_n 2 DX5_measureRests_30 rfl rfl ?_
      refine x_Ve (ci := 5) (av := [vI (nI k)]) (rest := [vI (nI k), vR 27]) (st' := [vI (nI (opI z n ld tn P A H k)), vI (nI k), vR 27]) 0 0 DX5_measureRests_31 L5_95 rfl rfl rfl rfl rfl ⟨nle rfl, nle rfl, nle rfl⟩ ⟨rfl, nle rfl⟩ ⟨rfl, nle rfl⟩ (x_openFrom K k z ρ Λ hF n ld tn P A H hOz (by omega)) rfl ?_
      refine x_iast k (nI_cl1 (by omega)) DX5_measureRests_34 rfl (gIn.fx hF (c := 27) (n := 256) rfl (gIn_nI (by omega) (by omega))) (fun ι34 e_ι34 => ?_)
      refine x_aload_n 0 DX5_measureRests_35 rfl rfl ?_
      refine x_getr 4 (some 26) DX5_measureRests_36 (Or.inr F5_21) rfl rfl (hF.1 22 4 26 rfl) ?_
      refine x_iload_n 2 DX5_measureRests_39 rfl rfl ?_
      refine x_aload_n 0 DX5_measureRests_40 rfl rfl ?_
      refine x_iload_n 2 DX5_measureRests_41 rfl rfl ?_
      have hO2 : okP ι34 n ld tn P A H := okP_of hOz (by rw [e_ι34, up2_ne _ _ _ (by decide)]) (by rw [e_ι34, up2_ne _ _ _ (by decide)]) (by rw [e_ι34, up2_ne _ _ _ (by decide)]) (by rw [e_ι34, up2_ne _ _ _ (by decide)])
      refine x_Ve (ci := 5) (av := [vI (nI k)]) (rest := [vI (nI k), vR 26]) (st' := [vI (rfI ι34 n ld tn P A H k (opI z n ld tn P A H k)), vI (nI k), vR 26]) 0 0 DX5_measureRests_42 L5_99 rfl rfl rfl rfl rfl ⟨nle rfl, nle rfl, nle rfl⟩ ⟨rfl, nle rfl⟩ ⟨rfl, nle rfl⟩ (x_restFrom K k (opI z n ld tn P A H k) ι34 ρ Λ hF n ld tn P A H hO2 (by omega) (by rw [e_ι34, up2_row, va_up_self]) (by omega)) rfl ?_
      refine x_iast k (nI_cl1 (by omega)) DX5_measureRests_45 rfl (gIn.fx hF (c := 26) (n := 256) rfl (gIn_nI (by omega) (by omega))) (fun ι45 e_ι45 => ?_)
      refine x_iinc ((nI k) + (-1)) (lv' := [some (vR 22), some (vI (nI (2 ^ n - 1))), some (vI ((nI k) + (-1)))]) DX5_measureRests_46 rfl rfl (nlt rfl) rfl ?_
      refine x_goto 20 DX5_measureRests_49 (by decide) ?_
      have e : xMe1 n ld tn P A H k z = ι45 := by rw [e_ι45, e_ι34]; rfl
      rw [e] at he
      exact ih _ (by omega) (okP_of hO2 (by rw [e_ι45, up2_ne _ _ _ (by decide)]) (by rw [e_ι45, up2_ne _ _ _ (by decide)]) (by rw [e_ι45, up2_ne _ _ _ (by decide)]) (by rw [e_ι45, up2_ne _ _ _ (by decide)])) he
  refine x_lv (lv' := [some (vR 22), some (vI (nI (2 ^ n - 1))), some (vI ((nI (2 ^ n - 1)) + (-1)))]) (lvS (lvS (lvI (by grind) rfl))) ?_
  rw [e_ι15]
  exact loop (2 ^ n - 1) _ (Nat.le_refl _) (okP_of hOk (by rw [up2_ne _ _ _ (by decide)]) (by rw [up2_ne _ _ _ (by decide)]) (by rw [up2_ne _ _ _ (by decide)]) (by rw [up2_ne _ _ _ (by decide)])) rfl
