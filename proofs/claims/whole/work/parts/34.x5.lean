/-! the class, V: ropes -/
theorem x_findR (K : gK) (r : Int32) (ι : gIm) (ρ : gRm) (Λ : gLm) (hF : gFix ρ Λ) (nr : Nat) (hR : ι 7 1 = nI nr) (hr0 : nr ≤ 200) (hRl : ∀ r, r < nr → ρ 8 r = some (200 + r)) (f : 0 ≤ r ∧ r < nI nr) : gCe K 1 0 0 jX7_find [vR 7, vI r] ι ρ Λ (some (vR (200 + r.toNatClampNeg))) ι ρ Λ := by
  refine gC_of (by decide) (nle rfl) ?_
  refine x_iload_n 1 DX7_find_0 rfl rfl ?_
  refine x_if_lt 28 DX7_find_1 (by decide) (fun c_1 => False.elim (by grind)) (fun c_1 => ?_)
  refine x_iload_n 1 DX7_find_4 rfl rfl ?_
  refine x_aload_n 0 DX7_find_5 rfl rfl ?_
  refine x_geti (v := (nI nr)) 1 DX7_find_6 (Or.inl F7_17) rfl rfl hR ?_
  refine x_icmp_ge 28 DX7_find_9 (by decide) (fun c_9 => False.elim (by grind)) (fun c_9 => ?_)
  refine x_iload_n 1 DX7_find_12 rfl rfl ?_
  refine x_sipush 200 DX7_find_13 (by decide) ?_
  refine x_icmp_ge 28 DX7_find_16 (by decide) (fun c_16 => False.elim (by have h2 := (gIn_nn f hr0 (by omega)); have h3 : r < 200 := (show r < nI 200 from (by rw [h2.nI]; exact nI_lt h2.2 (by omega))); grind)) (fun c_16 => ?_)
  refine x_aload_n 0 DX7_find_19 rfl rfl ?_
  refine x_getr 0 (some 8) DX7_find_20 (Or.inr F7_11) rfl rfl (hF.1 7 0 8 rfl) ?_
  refine x_iload_n 1 DX7_find_23 rfl rfl ?_
  refine x_aald (t := 4) r.toNatClampNeg (some (200 + r.toNatClampNeg)) rfl DX7_find_24 rfl ⟨by decide, by decide⟩ (gIn.fx hF (c := 8) (n := 200) rfl (gIn_nn f hr0 (by omega))) (hRl _ (nn_i f (by omega))) ?_
  refine x_goto 29 DX7_find_25 (by decide) ?_
  exact x_areturn DX7_find_29 ⟨_, rfl, by first | exact Or.inl ⟨_, rfl⟩ | exact Or.inr ⟨_, rfl⟩⟩ ⟨rfl, rfl, rfl, rfl⟩
theorem x_findRN (K : gK) (r : Int32) (ι : gIm) (ρ : gRm) (Λ : gLm) (hF : gFix ρ Λ) (nr : Nat) (hR : ι 7 1 = nI nr) (hr0 : nr ≤ 200) (f : ¬ (0 ≤ r ∧ r < nI nr)) : gCe K 1 0 0 jX7_find [vR 7, vI r] ι ρ Λ (some vN) ι ρ Λ := by
  refine gC_of (by decide) (nle rfl) ?_
  refine x_iload_n 1 DX7_find_0 rfl rfl ?_
  refine x_if_lt 28 DX7_find_1 (by decide) (fun c_1 => ?_) (fun c_1 => ?_)
  · refine x_null DX7_find_28 ?_
    exact x_areturn DX7_find_29 ⟨_, rfl, by first | exact Or.inl ⟨_, rfl⟩ | exact Or.inr ⟨_, rfl⟩⟩ ⟨rfl, rfl, rfl, rfl⟩
  · refine x_iload_n 1 DX7_find_4 rfl rfl ?_
    refine x_aload_n 0 DX7_find_5 rfl rfl ?_
    refine x_geti (v := (nI nr)) 1 DX7_find_6 (Or.inl F7_17) rfl rfl hR ?_
    refine x_icmp_ge 28 DX7_find_9 (by decide) (fun c_9 => ?_) (fun c_9 => ?_)
    · refine x_null DX7_find_28 ?_
      exact x_areturn DX7_find_29 ⟨_, rfl, by first | exact Or.inl ⟨_, rfl⟩ | exact Or.inr ⟨_, rfl⟩⟩ ⟨rfl, rfl, rfl, rfl⟩
    · refine x_iload_n 1 DX7_find_12 rfl rfl ?_
      refine x_sipush 200 DX7_find_13 (by decide) ?_
      refine x_icmp_ge 28 DX7_find_16 (by decide) (fun c_16 => ?_) (fun c_16 => False.elim (f ⟨by grind, by grind⟩))
      refine x_null DX7_find_28 ?_
      exact x_areturn DX7_find_29 ⟨_, rfl, by first | exact Or.inl ⟨_, rfl⟩ | exact Or.inr ⟨_, rfl⟩⟩ ⟨rfl, rfl, rfl, rfl⟩
theorem x_isFree (K : gK) (year : Int32) (ι : gIm) (ρ : gRm) (Λ : gLm) (r : Nat) (hr : r < 200) : gCe K 1 0 0 jX6_isFree [vR (200 + r), vI year] ι ρ Λ (some (vI (xFree (ι (200 + r) 6) (ι (200 + r) 7) (ι (200 + r) 3) year))) ι ρ Λ := by
  refine gC_of (by decide) (nle rfl) ?_
  refine x_aload_n 0 DX6_isFree_0 rfl rfl ?_
  refine x_geti (v := (ι (200 + r) 6)) 6 DX6_isFree_1 (Or.inl F6_34) (shp_rope (by omega)) rfl rfl ?_
  refine x_if_ne 26 DX6_isFree_4 (by decide) (fun c_4 => ?_) (fun c_4 => ?_)
  · refine x_iconst 0 DX6_isFree_26 (by decide) ?_
    exact x_zreturn DX6_isFree_27 rfl (Or.inl rfl) ⟨by grind [xFree], rfl, rfl, rfl⟩
  · refine x_aload_n 0 DX6_isFree_7 rfl rfl ?_
    refine x_geti (v := (ι (200 + r) 7)) 7 DX6_isFree_8 (Or.inl F6_38) (shp_rope (by omega)) rfl rfl ?_
    refine x_if_ne 26 DX6_isFree_11 (by decide) (fun c_11 => ?_) (fun c_11 => ?_)
    · refine x_iconst 0 DX6_isFree_26 (by decide) ?_
      exact x_zreturn DX6_isFree_27 rfl (Or.inl rfl) ⟨by grind [xFree], rfl, rfl, rfl⟩
    · refine x_aload_n 0 DX6_isFree_14 rfl rfl ?_
      refine x_geti (v := (ι (200 + r) 3)) 3 DX6_isFree_15 (Or.inr F6_24) (shp_rope (by omega)) rfl rfl ?_
      refine x_iload_n 1 DX6_isFree_18 rfl rfl ?_
      refine x_icmp_ne 26 DX6_isFree_19 (by decide) (fun c_19 => ?_) (fun c_19 => ?_)
      · refine x_iconst 0 DX6_isFree_26 (by decide) ?_
        exact x_zreturn DX6_isFree_27 rfl (Or.inl rfl) ⟨by grind [xFree], rfl, rfl, rfl⟩
      · refine x_iconst 1 DX6_isFree_22 (by decide) ?_
        refine x_goto 27 DX6_isFree_23 (by decide) ?_
        exact x_zreturn DX6_isFree_27 rfl (Or.inr rfl) ⟨by grind [xFree], rfl, rfl, rfl⟩
theorem x_cordsOf (K : gK) (h : Int32) (ι : gIm) (ρ : gRm) (Λ : gLm) (r : Nat) (hr : r < 200) (n : Nat) (hn : n ≤ 27) (ho1 : ρ (200 + r) 4 = some (400 + r)) (ho2 : ρ (200 + r) 5 = some (600 + r)) (hl1 : Λ.2 (400 + r) = n) (hl2 : Λ.2 (600 + r) = n) : gCe K 1 0 0 jX6_cordsOf [vR (200 + r), vI h] ι ρ Λ (some (vI (xCords (ι (400 + r)) n h))) ι ρ Λ := by
  refine gC_of (by decide) (nle rfl) ?_
  refine x_iconst 0 DX6_cordsOf_0 (by decide) ?_
  refine x_istore_n 2 (lv' := [some (vR (200 + r)), some (vI h), some (vI 0), none]) DX6_cordsOf_1 rfl ⟨nlt rfl, nlt rfl⟩ rfl ?_
  refine x_iconst 0 DX6_cordsOf_2 (by decide) ?_
  refine x_istore_n 3 (lv' := [some (vR (200 + r)), some (vI h), some (vI 0), some (vI 0)]) DX6_cordsOf_3 rfl ⟨nlt rfl, nlt rfl⟩ rfl ?_
  refine x_lv (lv' := [some (vR (200 + r)), some (vI h), some (vI 0), some (vI (nI 0))]) (lvS (lvS (lvS (lvI nI_0.symm rfl)))) ?_
  refine lp0 (W := fun i a => gX K none 1 0 0 jX6_cordsOf 4 [some (vR (200 + r)), some (vI h), some (vI a), some (vI (nI i))] [] 0 0 ι ρ Λ _) (fun i a => a + (if ι (400 + r) i = h then 1 else 0)) n (fun i a hi ih => ?_) 0 0 (by omega) ?_
  · refine x_iload_n 3 DX6_cordsOf_4 rfl rfl ?_
    refine x_aload_n 0 DX6_cordsOf_5 rfl rfl ?_
    refine x_getr 4 (some (400 + r)) DX6_cordsOf_6 (Or.inr F6_27) (shp_rope (by omega)) rfl ho1 ?_
    refine x_alen (t := 0) (nI n) DX6_cordsOf_9 (shp_own (by omega)) (by decide) (by rw [hl1]; rfl) ?_
    refine x_icmp_ge 37 DX6_cordsOf_10 (by decide) (fun c_10 => False.elim (by rw [nI_le1 (by omega) (by omega)] at c_10; omega)) (fun c_10 => ?_)
    refine x_iload_n 2 DX6_cordsOf_13 rfl rfl ?_
    refine x_aload_n 0 DX6_cordsOf_14 rfl rfl ?_
    refine x_getr 4 (some (400 + r)) DX6_cordsOf_15 (Or.inr F6_27) (shp_rope (by omega)) rfl ho1 ?_
    refine x_iload_n 3 DX6_cordsOf_18 rfl rfl ?_
    refine x_iald (v := (ι (400 + r) i)) i (nI_cl1 (by omega)) DX6_cordsOf_19 (shp_own (by omega)) (by rw [hl1]; exact gIn_nI hi (by omega)) rfl ?_
    refine x_iload_n 1 DX6_cordsOf_20 rfl rfl ?_
    refine x_icmp_ne 28 DX6_cordsOf_21 (by decide) (fun c_21 => ?_) (fun c_21 => ?_)
    · refine x_iconst 0 DX6_cordsOf_28 (by decide) ?_
      refine x_iadd DX6_cordsOf_29 ?_
      refine x_istore_n 2 (lv' := [some (vR (200 + r)), some (vI h), some (vI (a + 0)), some (vI (nI i))]) DX6_cordsOf_30 rfl ⟨nlt rfl, nlt rfl⟩ rfl ?_
      refine x_iinc ((nI i) + 1) (lv' := [some (vR (200 + r)), some (vI h), some (vI (a + 0)), some (vI ((nI i) + 1))]) DX6_cordsOf_31 rfl rfl (nlt rfl) rfl ?_
      refine x_goto 4 DX6_cordsOf_34 (by decide) ?_
      refine x_lv (lv' := [some (vR (200 + r)), some (vI h), some (vI (a + (if ι (400 + r) i = h then 1 else 0))), some (vI (nI (i + 1)))]) (lvS (lvS (lvI (by grind []) (lvI (nI_1 i) rfl)))) ?_
      exact ih
    · refine x_iconst 1 DX6_cordsOf_24 (by decide) ?_
      refine x_goto 29 DX6_cordsOf_25 (by decide) ?_
      refine x_iadd DX6_cordsOf_29 ?_
      refine x_istore_n 2 (lv' := [some (vR (200 + r)), some (vI h), some (vI (a + 1)), some (vI (nI i))]) DX6_cordsOf_30 rfl ⟨nlt rfl, nlt rfl⟩ rfl ?_
      refine x_iinc ((nI i) + 1) (lv' := [some (vR (200 + r)), some (vI h), some (vI (a + 1)), some (vI ((nI i) + 1))]) DX6_cordsOf_31 rfl rfl (nlt rfl) rfl ?_
      refine x_goto 4 DX6_cordsOf_34 (by decide) ?_
      refine x_lv (lv' := [some (vR (200 + r)), some (vI h), some (vI (a + (if ι (400 + r) i = h then 1 else 0))), some (vI (nI (i + 1)))]) (lvS (lvS (lvI (by grind []) (lvI (nI_1 i) rfl)))) ?_
      exact ih
  · show gX K none 1 0 0 jX6_cordsOf 4 [some (vR (200 + r)), some (vI h), some (vI (xCords (ι (400 + r)) n h)), some (vI (nI n))] [] 0 0 ι ρ Λ _
    refine x_iload_n 3 DX6_cordsOf_4 rfl rfl ?_
    refine x_aload_n 0 DX6_cordsOf_5 rfl rfl ?_
    refine x_getr 4 (some (400 + r)) DX6_cordsOf_6 (Or.inr F6_27) (shp_rope (by omega)) rfl ho1 ?_
    refine x_alen (t := 0) (nI n) DX6_cordsOf_9 (shp_own (by omega)) (by decide) (by rw [hl1]; rfl) ?_
    refine x_icmp_ge 37 DX6_cordsOf_10 (by decide) (fun c_10 => ?_) (fun c_10 => False.elim (c_10 (nI_le (by omega) (by omega))))
    refine x_iload_n 2 DX6_cordsOf_37 rfl rfl ?_
    exact x_ireturn DX6_cordsOf_38 rfl ⟨rfl, rfl, rfl, rfl⟩
theorem x_weakestOf (K : gK) (h : Int32) (ι : gIm) (ρ : gRm) (Λ : gLm) (r : Nat) (hr : r < 200) (n : Nat) (hn : n ≤ 27) (ho1 : ρ (200 + r) 4 = some (400 + r)) (ho2 : ρ (200 + r) 5 = some (600 + r)) (hl1 : Λ.2 (400 + r) = n) (hl2 : Λ.2 (600 + r) = n) : gCe K 2 0 0 jX6_weakestOf [vR (200 + r), vI h] ι ρ Λ (some (vI (xWeak (ι (400 + r)) (ι (600 + r)) n h))) ι ρ Λ := by
  refine gC_of (by decide) (nle rfl) ?_
  refine x_bipush 9 DX6_weakestOf_0 (by decide) ?_
  refine x_istore_n 2 (lv' := [some (vR (200 + r)), some (vI h), some (vI 9), none, none]) DX6_weakestOf_2 rfl ⟨nlt rfl, nlt rfl⟩ rfl ?_
  refine x_iconst 0 DX6_weakestOf_3 (by decide) ?_
  refine x_istore_n 3 (lv' := [some (vR (200 + r)), some (vI h), some (vI 9), some (vI 0), none]) DX6_weakestOf_4 rfl ⟨nlt rfl, nlt rfl⟩ rfl ?_
  refine x_lv (lv' := [some (vR (200 + r)), some (vI h), some (vI 9), some (vI (nI 0)), none]) (lvS (lvS (lvS (lvI nI_0.symm (lvS rfl))))) ?_
  refine lp0 (W := fun i a => gX K none 2 0 0 jX6_weakestOf 5 [some (vR (200 + r)), some (vI h), some (vI a), some (vI (nI i)), none] [] 0 0 ι ρ Λ _) (fun i a => imin a (ι (600 + r) i)) n (fun i a hi ih => ?_) 0 9 (by omega) ?_
  · refine x_iload_n 3 DX6_weakestOf_5 rfl rfl ?_
    refine x_aload_n 0 DX6_weakestOf_6 rfl rfl ?_
    refine x_getr 5 (some (600 + r)) DX6_weakestOf_7 (Or.inr F6_31) (shp_rope (by omega)) rfl ho2 ?_
    refine x_alen (t := 0) (nI n) DX6_weakestOf_10 (shp_car (by omega)) (by decide) (by rw [hl2]; rfl) ?_
    refine x_icmp_ge 31 DX6_weakestOf_11 (by decide) (fun c_11 => False.elim (by rw [nI_le1 (by omega) (by omega)] at c_11; omega)) (fun c_11 => ?_)
    refine x_iload_n 2 DX6_weakestOf_14 rfl rfl ?_
    refine x_aload_n 0 DX6_weakestOf_15 rfl rfl ?_
    refine x_getr 5 (some (600 + r)) DX6_weakestOf_16 (Or.inr F6_31) (shp_rope (by omega)) rfl ho2 ?_
    refine x_iload_n 3 DX6_weakestOf_19 rfl rfl ?_
    refine x_iald (v := (ι (600 + r) i)) i (nI_cl1 (by omega)) DX6_weakestOf_20 (shp_car (by omega)) (by rw [hl2]; exact gIn_nI hi (by omega)) rfl ?_
    refine x_Se (av := [vI a, vI (ι (600 + r) i)]) (rest := []) (st' := [vI (imin a (ι (600 + r) i))]) 0 0 DX6_weakestOf_21 L6_43 rfl rfl ⟨nle rfl, nle rfl, nle rfl⟩ ⟨rfl, nle rfl⟩ ⟨rfl, nle rfl⟩ (j_min K a (ι (600 + r) i) ι ρ Λ) rfl ?_
    refine x_istore_n 2 (lv' := [some (vR (200 + r)), some (vI h), some (vI (imin a (ι (600 + r) i))), some (vI (nI i)), none]) DX6_weakestOf_24 rfl ⟨nlt rfl, nlt rfl⟩ rfl ?_
    refine x_iinc ((nI i) + 1) (lv' := [some (vR (200 + r)), some (vI h), some (vI (imin a (ι (600 + r) i))), some (vI ((nI i) + 1)), none]) DX6_weakestOf_25 rfl rfl (nlt rfl) rfl ?_
    refine x_goto 5 DX6_weakestOf_28 (by decide) ?_
    refine x_lv (lv' := [some (vR (200 + r)), some (vI h), some (vI (imin a (ι (600 + r) i))), some (vI (nI (i + 1))), none]) (lvS (lvS (lvS (lvI (nI_1 i) (lvS rfl))))) ?_
    exact ih
  · show gX K none 2 0 0 jX6_weakestOf 5 [some (vR (200 + r)), some (vI h), some (vI (xLeast (ι (600 + r)) n)), some (vI (nI n)), none] [] 0 0 ι ρ Λ _
    refine x_iload_n 3 DX6_weakestOf_5 rfl rfl ?_
    refine x_aload_n 0 DX6_weakestOf_6 rfl rfl ?_
    refine x_getr 5 (some (600 + r)) DX6_weakestOf_7 (Or.inr F6_31) (shp_rope (by omega)) rfl ho2 ?_
    refine x_alen (t := 0) (nI n) DX6_weakestOf_10 (shp_car (by omega)) (by decide) (by rw [hl2]; rfl) ?_
    refine x_icmp_ge 31 DX6_weakestOf_11 (by decide) (fun c_11 => ?_) (fun c_11 => False.elim (c_11 (nI_le (by omega) (by omega))))
    refine x_iconst 0 DX6_weakestOf_31 (by decide) ?_
    refine x_istore_n 3 (lv' := [some (vR (200 + r)), some (vI h), some (vI (xLeast (ι (600 + r)) n)), some (vI 0), none]) DX6_weakestOf_32 rfl ⟨nlt rfl, nlt rfl⟩ rfl ?_
    refine x_iconst 0 DX6_weakestOf_33 (by decide) ?_
    refine x_istore (lv' := [some (vR (200 + r)), some (vI h), some (vI (xLeast (ι (600 + r)) n)), some (vI 0), some (vI 0)]) DX6_weakestOf_34 ⟨nlt rfl, nlt rfl⟩ rfl ?_
    refine x_lv (lv' := [some (vR (200 + r)), some (vI h), some (vI (xLeast (ι (600 + r)) n)), some (vI 0), some (vI (nI 0))]) (lvS (lvS (lvS (lvS (lvI nI_0.symm rfl))))) ?_
    refine lp0 (W := fun i a => gX K none 2 0 0 jX6_weakestOf 36 [some (vR (200 + r)), some (vI h), some (vI (xLeast (ι (600 + r)) n)), some (vI a), some (vI (nI i))] [] 0 0 ι ρ Λ _) (fun i a => a + (if ι (400 + r) i = h ∧ ι (600 + r) i = (xLeast (ι (600 + r)) n) then 1 else 0)) n (fun i a hi ih => ?_) 0 0 (by omega) ?_
    · refine x_iload DX6_weakestOf_36 rfl ?_
      refine x_aload_n 0 DX6_weakestOf_38 rfl rfl ?_
      refine x_getr 5 (some (600 + r)) DX6_weakestOf_39 (Or.inr F6_31) (shp_rope (by omega)) rfl ho2 ?_
      refine x_alen (t := 0) (nI n) DX6_weakestOf_42 (shp_car (by omega)) (by decide) (by rw [hl2]; rfl) ?_
      refine x_icmp_ge 92 DX6_weakestOf_43 (by decide) (fun c_43 => False.elim (by rw [nI_le1 (by omega) (by omega)] at c_43; omega)) (fun c_43 => ?_)
      refine x_iload DX6_weakestOf_46 rfl ?_
      refine x_aload_n 0 DX6_weakestOf_48 rfl rfl ?_
      refine x_getr 4 (some (400 + r)) DX6_weakestOf_49 (Or.inr F6_27) (shp_rope (by omega)) rfl ho1 ?_
      refine x_alen (t := 0) (nI n) DX6_weakestOf_52 (shp_own (by omega)) (by decide) (by rw [hl1]; rfl) ?_
      refine x_icmp_ge 92 DX6_weakestOf_53 (by decide) (fun c_53 => False.elim (by rw [nI_le1 (by omega) (by omega)] at c_53; omega)) (fun c_53 => ?_)
      refine x_iload_n 3 DX6_weakestOf_56 rfl rfl ?_
      refine x_aload_n 0 DX6_weakestOf_57 rfl rfl ?_
      refine x_getr 4 (some (400 + r)) DX6_weakestOf_58 (Or.inr F6_27) (shp_rope (by omega)) rfl ho1 ?_
      refine x_iload DX6_weakestOf_61 rfl ?_
      refine x_iald (v := (ι (400 + r) i)) i (nI_cl1 (by omega)) DX6_weakestOf_63 (shp_own (by omega)) (by rw [hl1]; exact gIn_nI hi (by omega)) rfl ?_
      refine x_iload_n 1 DX6_weakestOf_64 rfl rfl ?_
      refine x_icmp_ne 83 DX6_weakestOf_65 (by decide) (fun c_65 => ?_) (fun c_65 => ?_)
      · refine x_iconst 0 DX6_weakestOf_83 (by decide) ?_
        refine x_iadd DX6_weakestOf_84 ?_
        refine x_istore_n 3 (lv' := [some (vR (200 + r)), some (vI h), some (vI (xLeast (ι (600 + r)) n)), some (vI (a + 0)), some (vI (nI i))]) DX6_weakestOf_85 rfl ⟨nlt rfl, nlt rfl⟩ rfl ?_
        refine x_iinc ((nI i) + 1) (lv' := [some (vR (200 + r)), some (vI h), some (vI (xLeast (ι (600 + r)) n)), some (vI (a + 0)), some (vI ((nI i) + 1))]) DX6_weakestOf_86 rfl rfl (nlt rfl) rfl ?_
        refine x_goto 36 DX6_weakestOf_89 (by decide) ?_
        refine x_lv (lv' := [some (vR (200 + r)), some (vI h), some (vI (xLeast (ι (600 + r)) n)), some (vI (a + (if ι (400 + r) i = h ∧ ι (600 + r) i = (xLeast (ι (600 + r)) n) then 1 else 0))), some (vI (nI (i + 1)))]) (lvS (lvS (lvS (lvI (by grind []) (lvI (nI_1 i) rfl))))) ?_
        exact ih
      · refine x_aload_n 0 DX6_weakestOf_68 rfl rfl ?_
        refine x_getr 5 (some (600 + r)) DX6_weakestOf_69 (Or.inr F6_31) (shp_rope (by omega)) rfl ho2 ?_
        refine x_iload DX6_weakestOf_72 rfl ?_
        refine x_iald (v := (ι (600 + r) i)) i (nI_cl1 (by omega)) DX6_weakestOf_74 (shp_car (by omega)) (by rw [hl2]; exact gIn_nI hi (by omega)) rfl ?_
        refine x_iload_n 2 DX6_weakestOf_75 rfl rfl ?_
        refine x_icmp_ne 83 DX6_weakestOf_76 (by decide) (fun c_76 => ?_) (fun c_76 => ?_)
        · refine x_iconst 0 DX6_weakestOf_83 (by decide) ?_
          refine x_iadd DX6_weakestOf_84 ?_
          refine x_istore_n 3 (lv' := [some (vR (200 + r)), some (vI h), some (vI (xLeast (ι (600 + r)) n)), some (vI (a + 0)), some (vI (nI i))]) DX6_weakestOf_85 rfl ⟨nlt rfl, nlt rfl⟩ rfl ?_
          refine x_iinc ((nI i) + 1) (lv' := [some (vR (200 + r)), some (vI h), some (vI (xLeast (ι (600 + r)) n)), some (vI (a + 0)), some (vI ((nI i) + 1))]) DX6_weakestOf_86 rfl rfl (nlt rfl) rfl ?_
          refine x_goto 36 DX6_weakestOf_89 (by decide) ?_
          refine x_lv (lv' := [some (vR (200 + r)), some (vI h), some (vI (xLeast (ι (600 + r)) n)), some (vI (a + (if ι (400 + r) i = h ∧ ι (600 + r) i = (xLeast (ι (600 + r)) n) then 1 else 0))), some (vI (nI (i + 1)))]) (lvS (lvS (lvS (lvI (by grind []) (lvI (nI_1 i) rfl))))) ?_
          exact ih
        · refine x_iconst 1 DX6_weakestOf_79 (by decide) ?_
          refine x_goto 84 DX6_weakestOf_80 (by decide) ?_
          refine x_iadd DX6_weakestOf_84 ?_
          refine x_istore_n 3 (lv' := [some (vR (200 + r)), some (vI h), some (vI (xLeast (ι (600 + r)) n)), some (vI (a + 1)), some (vI (nI i))]) DX6_weakestOf_85 rfl ⟨nlt rfl, nlt rfl⟩ rfl ?_
          refine x_iinc ((nI i) + 1) (lv' := [some (vR (200 + r)), some (vI h), some (vI (xLeast (ι (600 + r)) n)), some (vI (a + 1)), some (vI ((nI i) + 1))]) DX6_weakestOf_86 rfl rfl (nlt rfl) rfl ?_
          refine x_goto 36 DX6_weakestOf_89 (by decide) ?_
          refine x_lv (lv' := [some (vR (200 + r)), some (vI h), some (vI (xLeast (ι (600 + r)) n)), some (vI (a + (if ι (400 + r) i = h ∧ ι (600 + r) i = (xLeast (ι (600 + r)) n) then 1 else 0))), some (vI (nI (i + 1)))]) (lvS (lvS (lvS (lvI (by grind []) (lvI (nI_1 i) rfl))))) ?_
          exact ih
    · show gX K none 2 0 0 jX6_weakestOf 36 [some (vR (200 + r)), some (vI h), some (vI (xLeast (ι (600 + r)) n)), some (vI (xWeak (ι (400 + r)) (ι (600 + r)) n h)), some (vI (nI n))] [] 0 0 ι ρ Λ _
      refine x_iload DX6_weakestOf_36 rfl ?_
      refine x_aload_n 0 DX6_weakestOf_38 rfl rfl ?_
      refine x_getr 5 (some (600 + r)) DX6_weakestOf_39 (Or.inr F6_31) (shp_rope (by omega)) rfl ho2 ?_
      refine x_alen (t := 0) (nI n) DX6_weakestOf_42 (shp_car (by omega)) (by decide) (by rw [hl2]; rfl) ?_
      refine x_icmp_ge 92 DX6_weakestOf_43 (by decide) (fun c_43 => ?_) (fun c_43 => False.elim (c_43 (nI_le (by omega) (by omega))))
      refine x_iload_n 3 DX6_weakestOf_92 rfl rfl ?_
      exact x_ireturn DX6_weakestOf_93 rfl ⟨rfl, rfl, rfl, rfl⟩
theorem x_isFull (K : gK)  (ι : gIm) (ρ : gRm) (Λ : gLm)  : gCe K 1 0 0 jX7_isFull [vR 7] ι ρ Λ (some (vI (b2i (200 ≤ ι 7 1)))) ι ρ Λ := by
  refine gC_of (by decide) (nle rfl) ?_
  refine x_aload_n 0 DX7_isFull_0 rfl rfl ?_
  refine x_geti (v := (ι 7 1)) 1 DX7_isFull_1 (Or.inl F7_17) rfl rfl rfl ?_
  refine x_sipush 200 DX7_isFull_4 (by decide) ?_
  refine x_icmp_lt 14 DX7_isFull_7 (by decide) (fun c_7 => ?_) (fun c_7 => ?_)
  · refine x_iconst 0 DX7_isFull_14 (by decide) ?_
    exact x_zreturn DX7_isFull_15 rfl (Or.inl rfl) ⟨by grind [b2i], rfl, rfl, rfl⟩
  · refine x_iconst 1 DX7_isFull_10 (by decide) ?_
    refine x_goto 15 DX7_isFull_11 (by decide) ?_
    exact x_zreturn DX7_isFull_15 rfl (Or.inr rfl) ⟨by grind [b2i], rfl, rfl, rfl⟩
