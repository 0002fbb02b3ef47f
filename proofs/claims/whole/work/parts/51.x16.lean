/-! the class, XVI: open steps, groups -/
theorem x_openFrom (K : gK) (S : Nat) (ι : gIm) (ρ : gRm) (Λ : gLm) (hF : gFix ρ Λ) (n ld tn : Nat) (P A H : Nat → Nat) (hOk : okP ι n ld tn P A H) (hS : S < 2 ^ n) : gCe K 3 0 0 jX5_openFrom [vR 22, vI (nI S)] ι ρ Λ (some (vI (nI (opI ι n ld tn P A H S)))) ι ρ Λ := by
  refine gC_of (by decide) (nle rfl) ?_
  obtain ⟨hN, hn, hld, htn, hl8, ht8, hPl, hAf, hHg, h2n⟩ := id hOk
  refine x_iconst 0 DX5_openFrom_0 (by decide) ?_
  refine x_istore_n 2 (lv' := [some (vR 22), some (vI (nI S)), some (vI 0), none]) DX5_openFrom_1 rfl ⟨nlt rfl, nlt rfl⟩ rfl ?_
  refine x_iconst 0 DX5_openFrom_2 (by decide) ?_
  refine x_istore_n 3 (lv' := [some (vR 22), some (vI (nI S)), some (vI 0), some (vI 0)]) DX5_openFrom_3 rfl ⟨nlt rfl, nlt rfl⟩ rfl ?_
  refine x_lv (lv' := [some (vR 22), some (vI (nI S)), some (vI (nI 0)), some (vI (nI 0))]) (lvS (lvS (lvI nI_0.symm (lvI nI_0.symm rfl)))) ?_
  refine lp0 (W := fun i a => gX K none 3 0 0 jX5_openFrom 4 [some (vR 22), some (vI (nI S)), some (vI (nI a)), some (vI (nI i))] [] 0 0 ι ρ Λ _) (opI1 ι ld tn P A H S) n (fun i a hi ih => ?_) 0 0 (by omega) ?_
  · refine x_iload_n 3 DX5_openFrom_4 rfl rfl ?_
    refine x_aload_n 0 DX5_openFrom_5 rfl rfl ?_
    refine x_geti (v := (nI n)) 9 DX5_openFrom_6 (Or.inl F5_51) rfl rfl hN ?_
    refine x_icmp_ge 50 DX5_openFrom_9 (by decide) (fun c_9 => False.elim (by rw [nI_le1 (by omega) (by omega)] at c_9; omega)) (fun c_9 => ?_)
    refine x_iload_n 2 DX5_openFrom_12 rfl rfl ?_
    refine x_aload_n 0 DX5_openFrom_13 rfl rfl ?_
    refine x_getr 0 (some 16) DX5_openFrom_14 (Or.inr F5_46) rfl rfl (hF.1 22 0 16 rfl) ?_
    refine x_getr 0 (some 17) DX5_openFrom_17 (Or.inr F5_77) rfl rfl (hF.1 16 0 17 rfl) ?_
    refine x_iload_n 3 DX5_openFrom_20 rfl rfl ?_
    refine x_iald (v := (ι 17 i)) i (nI_cl1 (by omega)) DX5_openFrom_21 rfl (gIn.fx hF (c := 17) (n := 12) rfl (gIn_nI (by omega) (by omega))) rfl ?_
    refine x_iconst 2 DX5_openFrom_22 (by decide) ?_
    refine x_icmp_ne 41 DX5_openFrom_23 (by decide) (fun c_23 => ?_) (fun c_23 => ?_)
    · refine x_iconst 0 DX5_openFrom_41 (by decide) ?_
      refine x_ior DX5_openFrom_42 ?_
      rw [nI_or0]
      refine x_istore_n 2 (lv' := [some (vR 22), some (vI (nI S)), some (vI (nI (a ||| 0))), some (vI (nI i))]) DX5_openFrom_43 rfl ⟨nlt rfl, nlt rfl⟩ rfl ?_
      refine x_iinc ((nI i) + 1) (lv' := [some (vR 22), some (vI (nI S)), some (vI (nI (a ||| 0))), some (vI ((nI i) + 1))]) DX5_openFrom_44 rfl rfl (nlt rfl) rfl ?_
      refine x_goto 4 DX5_openFrom_47 (by decide) ?_
      refine x_lv (lv' := [some (vR 22), some (vI (nI S)), some (vI (nI (opI1 ι ld tn P A H S i a))), some (vI (nI (i + 1)))]) (lvS (lvS (lvI (by unfold opI1; rw [if_neg (by grind)]) (lvI (nI_1 i) rfl)))) ?_
      exact ih
    · refine x_aload_n 0 DX5_openFrom_26 rfl rfl ?_
      refine x_iload_n 1 DX5_openFrom_27 rfl rfl ?_
      refine x_iload_n 3 DX5_openFrom_28 rfl rfl ?_
      refine x_Ve (ci := 5) (av := [vI (nI S), vI (nI i)]) (rest := [vI (nI a)]) (st' := [vI (b2i (mayI ι ld tn P A H S i = true)), vI (nI a)]) 0 0 DX5_openFrom_29 L5_102 rfl rfl rfl rfl rfl ⟨nle rfl, nle rfl, nle rfl⟩ ⟨rfl, nle rfl⟩ ⟨rfl, nle rfl⟩ (x_may K S i ι ρ Λ hF n hN hn ld tn hld htn hl8 ht8 P A H hPl hAf hHg h2n hS hi) rfl ?_
      refine x_if_eq_b 41 DX5_openFrom_32 (by decide) (fun c_32 => ?_) (fun c_32 => ?_)
      · refine x_iconst 0 DX5_openFrom_41 (by decide) ?_
        refine x_ior DX5_openFrom_42 ?_
        rw [nI_or0]
        refine x_istore_n 2 (lv' := [some (vR 22), some (vI (nI S)), some (vI (nI (a ||| 0))), some (vI (nI i))]) DX5_openFrom_43 rfl ⟨nlt rfl, nlt rfl⟩ rfl ?_
        refine x_iinc ((nI i) + 1) (lv' := [some (vR 22), some (vI (nI S)), some (vI (nI (a ||| 0))), some (vI ((nI i) + 1))]) DX5_openFrom_44 rfl rfl (nlt rfl) rfl ?_
        refine x_goto 4 DX5_openFrom_47 (by decide) ?_
        refine x_lv (lv' := [some (vR 22), some (vI (nI S)), some (vI (nI (opI1 ι ld tn P A H S i a))), some (vI (nI (i + 1)))]) (lvS (lvS (lvI (by unfold opI1; rw [if_neg (by grind)]) (lvI (nI_1 i) rfl)))) ?_
        exact ih
      · refine x_iconst 1 DX5_openFrom_35 (by decide) ?_
        refine x_iload_n 3 DX5_openFrom_36 rfl rfl ?_
        refine x_ishl DX5_openFrom_37 ?_
        rw [nI_shl i (by omega)]
        refine x_goto 42 DX5_openFrom_38 (by decide) ?_
        refine x_ior DX5_openFrom_42 ?_
        rw [nI_or]
        refine x_istore_n 2 (lv' := [some (vR 22), some (vI (nI S)), some (vI (nI (a ||| 2 ^ i))), some (vI (nI i))]) DX5_openFrom_43 rfl ⟨nlt rfl, nlt rfl⟩ rfl ?_
        refine x_iinc ((nI i) + 1) (lv' := [some (vR 22), some (vI (nI S)), some (vI (nI (a ||| 2 ^ i))), some (vI ((nI i) + 1))]) DX5_openFrom_44 rfl rfl (nlt rfl) rfl ?_
        refine x_goto 4 DX5_openFrom_47 (by decide) ?_
        refine x_lv (lv' := [some (vR 22), some (vI (nI S)), some (vI (nI (opI1 ι ld tn P A H S i a))), some (vI (nI (i + 1)))]) (lvS (lvS (lvI (by unfold opI1; rw [if_pos ⟨by assumption, by assumption⟩]) (lvI (nI_1 i) rfl)))) ?_
        exact ih
  · show gX K none 3 0 0 jX5_openFrom 4 [some (vR 22), some (vI (nI S)), some (vI (nI (opI ι n ld tn P A H S))), some (vI (nI n))] [] 0 0 ι ρ Λ _
    refine x_iload_n 3 DX5_openFrom_4 rfl rfl ?_
    refine x_aload_n 0 DX5_openFrom_5 rfl rfl ?_
    refine x_geti (v := (nI n)) 9 DX5_openFrom_6 (Or.inl F5_51) rfl rfl hN ?_
    refine x_icmp_ge 50 DX5_openFrom_9 (by decide) (fun c_9 => ?_) (fun c_9 => False.elim (c_9 (nI_le (by omega) (by omega))))
    refine x_iload_n 2 DX5_openFrom_50 rfl rfl ?_
    exact x_ireturn DX5_openFrom_51 rfl ⟨rfl, rfl, rfl, rfl⟩
theorem x_restGrouped (K : gK) (S g0 o : Nat) (ι : gIm) (ρ : gRm) (Λ : gLm) (hF : gFix ρ Λ) (hS : S < 256) (hb : g0 < 256) (ho : o < 256) : gCe K 2 0 0 jX5_restGrouped [vR 22, vI (nI S), vI (nI g0), vI (nI o)] ι ρ Λ (some (vI (rgI ι S g0 o))) ι ρ Λ := by
  refine gC_of (by decide) (nle rfl) ?_
  refine x_ldc DX5_restGrouped_0 gw3_236 ?_
  refine x_istore (lv' := [some (vR 22), some (vI (nI S)), some (vI (nI g0)), some (vI (nI o)), some (vI 1000000), none, none, none]) DX5_restGrouped_2 ⟨nlt rfl, nlt rfl⟩ rfl ?_
  refine x_iload_n 3 DX5_restGrouped_4 rfl rfl ?_
  refine x_istore (lv' := [some (vR 22), some (vI (nI S)), some (vI (nI g0)), some (vI (nI o)), some (vI 1000000), some (vI (nI o)), none, none]) DX5_restGrouped_5 ⟨nlt rfl, nlt rfl⟩ rfl ?_
  refine x_iconst 0 DX5_restGrouped_7 (by decide) ?_
  refine x_istore (lv' := [some (vR 22), some (vI (nI S)), some (vI (nI g0)), some (vI (nI o)), some (vI 1000000), some (vI (nI o)), some (vI 0), none]) DX5_restGrouped_8 ⟨nlt rfl, nlt rfl⟩ rfl ?_
  have loop : ∀ (k i g : Nat) (l : Int32), i + k = 256 → g < 256 → rgN (ι 24) (ι 25) (ι 26) (ι 22 13) S g0 o k g l = rgI ι S g0 o → gX K none 2 0 0 jX5_restGrouped 10 [some (vR 22), some (vI (nI S)), some (vI (nI g0)), some (vI (nI o)), some (vI l), some (vI (nI g)), some (vI (nI i)), none] [] 0 0 ι ρ Λ (fun r2 a b c => r2 = (some (vI (rgI ι S g0 o))) ∧ a = ι ∧ b = ρ ∧ c = Λ) := by
    intro k
    induction k with
    | zero =>
      intro i g l hi hg he
      refine x_iload DX5_restGrouped_10 rfl ?_
      refine x_sipush 256 DX5_restGrouped_12 (by decide) ?_
      refine x_icmp_ge 84 DX5_restGrouped_15 (by decide) (fun c_15 => ?_) (fun c_15 => False.elim (c_15 (by rw [show (256 : Int32) = nI 256 from rfl]; exact nI_le (by omega) (by omega))))
      refine x_iload DX5_restGrouped_84 rfl ?_
      exact x_ireturn DX5_restGrouped_86 rfl ⟨by rw [← he]; rfl, rfl, rfl, rfl⟩
    | succ k ih =>
      intro i g l hi hg he
      have hbg := or8 hb hg
      have hsg := or8 hS hbg
      rw [rgN] at he
      refine x_iload DX5_restGrouped_10 rfl ?_
      refine x_sipush 256 DX5_restGrouped_12 (by decide) ?_
      refine x_icmp_ge 84 DX5_restGrouped_15 (by decide) (fun c_15 => False.elim (by rw [show (256 : Int32) = nI 256 from rfl, nI_le1 (by omega) (by omega)] at c_15; omega)) (fun c_15 => ?_)
      refine x_iload_n 2 DX5_restGrouped_18 rfl rfl ?_
      refine x_iload DX5_restGrouped_19 rfl ?_
      refine x_ior DX5_restGrouped_21 ?_
      rw [nI_or]
      refine x_istore (lv' := [some (vR 22), some (vI (nI S)), some (vI (nI g0)), some (vI (nI o)), some (vI l), some (vI (nI g)), some (vI (nI i)), some (vI (nI (g0 ||| g)))]) DX5_restGrouped_22 ⟨nlt rfl, nlt rfl⟩ rfl ?_
      refine x_aload_n 0 DX5_restGrouped_24 rfl rfl ?_
      refine x_getr 2 (some 24) DX5_restGrouped_25 (Or.inr F5_15) rfl rfl (hF.1 22 2 24 rfl) ?_
      refine x_iload DX5_restGrouped_28 rfl ?_
      refine x_iald (v := (ι 24 (g0 ||| g))) (g0 ||| g) (nI_cl1 (by omega)) DX5_restGrouped_30 rfl (gIn.fx hF (c := 24) (n := 256) rfl (gIn_nI hbg (by omega))) rfl ?_
      refine x_aload_n 0 DX5_restGrouped_31 rfl rfl ?_
      refine x_geti (v := (ι 22 13)) 13 DX5_restGrouped_32 (Or.inl F5_40) rfl rfl rfl ?_
      refine x_icmp_gt 62 DX5_restGrouped_35 (by decide) (fun c_35 => ?_) (fun c_35 => ?_)
      · refine x_iload DX5_restGrouped_62 rfl ?_
        refine x_if_ne 70 DX5_restGrouped_64 (by decide) (fun c_64 => ?_) (fun c_64 => ?_)
        · rw [nI_eq0 (by omega)] at c_64
          refine x_iload DX5_restGrouped_70 rfl ?_
          refine x_iconst 1 DX5_restGrouped_72 (by decide) ?_
          refine x_isub DX5_restGrouped_73 ?_
          rw [show (1 : Int32) = nI 1 from rfl, pk_sub (by omega)]
          refine x_iload_n 3 DX5_restGrouped_74 rfl rfl ?_
          refine x_iand DX5_restGrouped_75 ?_
          rw [nI_and]
          refine x_istore (lv' := [some (vR 22), some (vI (nI S)), some (vI (nI g0)), some (vI (nI o)), some (vI l), some (vI (nI ((g - 1) &&& o))), some (vI (nI i)), some (vI (nI (g0 ||| g)))]) DX5_restGrouped_76 ⟨nlt rfl, nlt rfl⟩ rfl ?_
          refine x_iinc ((nI i) + 1) (lv' := [some (vR 22), some (vI (nI S)), some (vI (nI g0)), some (vI (nI o)), some (vI l), some (vI (nI ((g - 1) &&& o))), some (vI ((nI i) + 1)), some (vI (nI (g0 ||| g)))]) DX5_restGrouped_78 rfl rfl (nlt rfl) rfl ?_
          refine x_goto 10 DX5_restGrouped_81 (by decide) ?_
          refine x_lv (lv' := [some (vR 22), some (vI (nI S)), some (vI (nI g0)), some (vI (nI o)), some (vI l), some (vI (nI ((g - 1) &&& o))), some (vI (nI (i + 1))), some (vI (nI (g0 ||| g)))]) (lvS (lvS (lvS (lvS (lvS (lvS (lvI (nI_1 i) (lvS rfl)))))))) ?_
          refine x_less (lv' := [some (vR 22), some (vI (nI S)), some (vI (nI g0)), some (vI (nI o)), some (vI l), some (vI (nI ((g - 1) &&& o))), some (vI (nI (i + 1))), none]) (less_ok (m := [true, true, true, true, true, true, true, false]) rfl) ?_
          exact ih (i + 1) _ _ (by omega) (and_lt (by omega)) (by rw [if_neg (by assumption), if_neg (by grind)] at he; exact he)
        · rw [nI_eq0 (by omega)] at c_64
          refine x_goto 84 DX5_restGrouped_67 (by decide) ?_
          refine x_iload DX5_restGrouped_84 rfl ?_
          exact x_ireturn DX5_restGrouped_86 rfl ⟨by rw [if_pos (by assumption), if_neg (by grind)] at he; rw [← he], rfl, rfl, rfl⟩
      · refine x_iload DX5_restGrouped_38 rfl ?_
        refine x_aload_n 0 DX5_restGrouped_40 rfl rfl ?_
        refine x_getr 3 (some 25) DX5_restGrouped_41 (Or.inr F5_18) rfl rfl (hF.1 22 3 25 rfl) ?_
        refine x_iload DX5_restGrouped_44 rfl ?_
        refine x_iald (v := (ι 25 (g0 ||| g))) (g0 ||| g) (nI_cl1 (by omega)) DX5_restGrouped_46 rfl (gIn.fx hF (c := 25) (n := 256) rfl (gIn_nI hbg (by omega))) rfl ?_
        refine x_aload_n 0 DX5_restGrouped_47 rfl rfl ?_
        refine x_getr 4 (some 26) DX5_restGrouped_48 (Or.inr F5_21) rfl rfl (hF.1 22 4 26 rfl) ?_
        refine x_iload_n 1 DX5_restGrouped_51 rfl rfl ?_
        refine x_iload DX5_restGrouped_52 rfl ?_
        refine x_ior DX5_restGrouped_54 ?_
        rw [nI_or]
        refine x_iald (v := (ι 26 (S ||| (g0 ||| g)))) (S ||| (g0 ||| g)) (nI_cl1 (by omega)) DX5_restGrouped_55 rfl (gIn.fx hF (c := 26) (n := 256) rfl (gIn_nI hsg (by omega))) rfl ?_
        refine x_iadd DX5_restGrouped_56 ?_
        refine x_Se (av := [vI l, vI ((ι 25 (g0 ||| g)) + (ι 26 (S ||| (g0 ||| g))))]) (rest := []) (st' := [vI (imin l ((ι 25 (g0 ||| g)) + (ι 26 (S ||| (g0 ||| g)))))]) 0 0 DX5_restGrouped_57 L5_110 rfl rfl ⟨nle rfl, nle rfl, nle rfl⟩ ⟨rfl, nle rfl⟩ ⟨rfl, nle rfl⟩ (j_min K l ((ι 25 (g0 ||| g)) + (ι 26 (S ||| (g0 ||| g)))) ι ρ Λ) rfl ?_
        refine x_istore (lv' := [some (vR 22), some (vI (nI S)), some (vI (nI g0)), some (vI (nI o)), some (vI (imin l ((ι 25 (g0 ||| g)) + (ι 26 (S ||| (g0 ||| g)))))), some (vI (nI g)), some (vI (nI i)), some (vI (nI (g0 ||| g)))]) DX5_restGrouped_60 ⟨nlt rfl, nlt rfl⟩ rfl ?_
        refine x_iload DX5_restGrouped_62 rfl ?_
        refine x_if_ne 70 DX5_restGrouped_64 (by decide) (fun c_64 => ?_) (fun c_64 => ?_)
        · rw [nI_eq0 (by omega)] at c_64
          refine x_iload DX5_restGrouped_70 rfl ?_
          refine x_iconst 1 DX5_restGrouped_72 (by decide) ?_
          refine x_isub DX5_restGrouped_73 ?_
          rw [show (1 : Int32) = nI 1 from rfl, pk_sub (by omega)]
          refine x_iload_n 3 DX5_restGrouped_74 rfl rfl ?_
          refine x_iand DX5_restGrouped_75 ?_
          rw [nI_and]
          refine x_istore (lv' := [some (vR 22), some (vI (nI S)), some (vI (nI g0)), some (vI (nI o)), some (vI (imin l ((ι 25 (g0 ||| g)) + (ι 26 (S ||| (g0 ||| g)))))), some (vI (nI ((g - 1) &&& o))), some (vI (nI i)), some (vI (nI (g0 ||| g)))]) DX5_restGrouped_76 ⟨nlt rfl, nlt rfl⟩ rfl ?_
          refine x_iinc ((nI i) + 1) (lv' := [some (vR 22), some (vI (nI S)), some (vI (nI g0)), some (vI (nI o)), some (vI (imin l ((ι 25 (g0 ||| g)) + (ι 26 (S ||| (g0 ||| g)))))), some (vI (nI ((g - 1) &&& o))), some (vI ((nI i) + 1)), some (vI (nI (g0 ||| g)))]) DX5_restGrouped_78 rfl rfl (nlt rfl) rfl ?_
          refine x_goto 10 DX5_restGrouped_81 (by decide) ?_
          refine x_lv (lv' := [some (vR 22), some (vI (nI S)), some (vI (nI g0)), some (vI (nI o)), some (vI (imin l ((ι 25 (g0 ||| g)) + (ι 26 (S ||| (g0 ||| g)))))), some (vI (nI ((g - 1) &&& o))), some (vI (nI (i + 1))), some (vI (nI (g0 ||| g)))]) (lvS (lvS (lvS (lvS (lvS (lvS (lvI (nI_1 i) (lvS rfl)))))))) ?_
          refine x_less (lv' := [some (vR 22), some (vI (nI S)), some (vI (nI g0)), some (vI (nI o)), some (vI (imin l ((ι 25 (g0 ||| g)) + (ι 26 (S ||| (g0 ||| g)))))), some (vI (nI ((g - 1) &&& o))), some (vI (nI (i + 1))), none]) (less_ok (m := [true, true, true, true, true, true, true, false]) rfl) ?_
          exact ih (i + 1) _ _ (by omega) (and_lt (by omega)) (by rw [if_neg (by assumption), if_pos (by grind)] at he; exact he)
        · rw [nI_eq0 (by omega)] at c_64
          refine x_goto 84 DX5_restGrouped_67 (by decide) ?_
          refine x_iload DX5_restGrouped_84 rfl ?_
          exact x_ireturn DX5_restGrouped_86 rfl ⟨by rw [if_pos (by assumption), if_pos (by grind)] at he; rw [← he], rfl, rfl, rfl⟩
  refine x_lv (lv' := [some (vR 22), some (vI (nI S)), some (vI (nI g0)), some (vI (nI o)), some (vI 1000000), some (vI (nI o)), some (vI (nI 0)), none]) (lvS (lvS (lvS (lvS (lvS (lvS (lvI nI_0.symm rfl))))))) ?_
  exact loop 256 0 o 1000000 (by omega) ho (by rw [rgI])
