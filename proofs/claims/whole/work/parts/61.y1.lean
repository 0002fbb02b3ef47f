/-! the model, IX: days of a row -/
theorem m_floors (K : gK) (k : Nat) (ι : gIm) (ρ : gRm) (Λ : gLm) (hk : k < 64) : gCe K 1 0 0 jX12_floors [vI (nI k)] ι ρ Λ (some (vI (nI (pc (k &&& 15))))) ι ρ Λ := by
  refine gC_of (by decide) (nle rfl) ?_
  refine x_iload_n 0 DX12_floors_0 rfl rfl ?_
  refine x_iconst 1 DX12_floors_1 (by decide) ?_
  refine x_iand DX12_floors_2 ?_
  refine x_iload_n 0 DX12_floors_3 rfl rfl ?_
  refine x_iconst 1 DX12_floors_4 (by decide) ?_
  refine x_ishr DX12_floors_5 ?_
  refine x_iconst 1 DX12_floors_6 (by decide) ?_
  refine x_iand DX12_floors_7 ?_
  refine x_iadd DX12_floors_8 ?_
  refine x_iload_n 0 DX12_floors_9 rfl rfl ?_
  refine x_iconst 2 DX12_floors_10 (by decide) ?_
  refine x_ishr DX12_floors_11 ?_
  refine x_iconst 1 DX12_floors_12 (by decide) ?_
  refine x_iand DX12_floors_13 ?_
  refine x_iadd DX12_floors_14 ?_
  refine x_iload_n 0 DX12_floors_15 rfl rfl ?_
  refine x_iconst 3 DX12_floors_16 (by decide) ?_
  refine x_ishr DX12_floors_17 ?_
  refine x_iconst 1 DX12_floors_18 (by decide) ?_
  refine x_iand DX12_floors_19 ?_
  refine x_iadd DX12_floors_20 ?_
  exact x_ireturn DX12_floors_21 rfl ⟨by rw [← fl_eq k hk]; rfl, rfl, rfl, rfl⟩
theorem m_daysOf (K : gK)  (ι : gIm) (ρ : gRm) (Λ : gLm) (hF : gFix ρ Λ) (nh : Nat) (hH : ι 40 4 = nI nh) (hn : nh ≤ 24) (ns : Nat) (hS : ι 40 8 = nI ns) (hs8 : ns ≤ 8) (hRow : ∀ j, j < ns → ι 71 j = nI (rwM ι j) ∧ rwM ι j < ns) : gCe K 2 0 0 jX12_daysOf [vR 40] ι ρ Λ (some (vI (mDy (sHands (ι 50) (ι 44) nh) ns ι 73 ns))) (mDy (sHands (ι 50) (ι 44) nh) ns ι) ρ Λ := by
  refine gC_of (by decide) (nle rfl) ?_
  refine x_aload_n 0 DX12_daysOf_0 rfl rfl ?_
  refine x_Ve (ci := 12) (av := []) (rest := []) (st' := [vI (sHands (ι 50) (ι 44) nh)]) 0 0 DX12_daysOf_1 L12_155 rfl rfl rfl rfl rfl ⟨nle rfl, nle rfl, nle rfl⟩ ⟨rfl, nle rfl⟩ ⟨rfl, nle rfl⟩ (m_allHands K ι ρ Λ hF nh hH hn) rfl ?_
  refine x_istore_n 1 (lv' := [some (vR 40), some (vI (sHands (ι 50) (ι 44) nh)), none, none, none, none, none, none, none]) DX12_daysOf_4 rfl ⟨nlt rfl, nlt rfl⟩ rfl ?_
  refine x_aload_n 0 DX12_daysOf_5 rfl rfl ?_
  refine x_getr 40 (some 73) DX12_daysOf_6 (Or.inr F12_107) rfl rfl (hF.1 40 40 73 rfl) ?_
  refine x_iconst 0 DX12_daysOf_9 (by decide) ?_
  refine x_iconst 0 DX12_daysOf_10 (by decide) ?_
  refine x_iast 0 rfl DX12_daysOf_11 rfl (gIn.fx hF (c := 73) (n := 9) rfl (⟨by decide, by decide⟩)) (fun ι11 e_ι11 => ?_)
  refine x_iconst 1 DX12_daysOf_12 (by decide) ?_
  refine x_istore_n 2 (lv' := [some (vR 40), some (vI (sHands (ι 50) (ι 44) nh)), some (vI 1), none, none, none, none, none, none]) DX12_daysOf_13 rfl ⟨nlt rfl, nlt rfl⟩ rfl ?_
  rw [e_ι11]
  obtain ⟨hh, hhe⟩ : ∃ hh, hh = (sHands (ι 50) (ι 44) nh) := ⟨_, rfl⟩
  rw [← hhe]
  refine x_lv (lv' := [some (vR 40), some (vI hh), some (vI (nI (0 + 1))), none, none, none, none, none, none]) rfl ?_
  refine lpJ (W := fun (i : Nat) (z : gIm) => gX K none 2 0 0 jX12_daysOf 14 [some (vR 40), some (vI hh), some (vI (nI (i + 1))), none, none, none, none, none, none] [] 0 0 z ρ Λ (fun r2 a b c => r2 = (some (vI (mDy hh ns ι 73 ns))) ∧ a = (mDy hh ns ι) ∧ b = ρ ∧ c = Λ)) (mDy1 hh) (fun i z => ∀ c, c ≠ 73 → z c = ι c) ns (fun i z hi hJ ih => ?_) (fun i z hi hJ c hc => by rw [mDy1, up2_ne _ _ _ hc]; exact hJ c hc) 0 (up2 ι 73 0 0) (by omega) (fun c hc => by rw [up2_ne _ _ _ hc]) (fun hJ => ?_)
  · have hRz : ∀ j, j < ns → z 71 j = nI (rwM z j) ∧ rwM z j < ns := by intro j hj; unfold rwM; rw [hJ 71 (by decide)]; exact hRow j hj
    have hSz : z 40 8 = nI ns := by rw [hJ 40 (by decide)]; exact hS
    have hri := (hRz i hi).2
    refine x_iload_n 2 DX12_daysOf_14 rfl rfl ?_
    refine x_aload_n 0 DX12_daysOf_15 rfl rfl ?_
    refine x_geti (v := (nI ns)) 8 DX12_daysOf_16 (Or.inl F12_216) rfl rfl hSz ?_
    refine x_icmp_gt 226 DX12_daysOf_19 (by decide) (fun c_19 => False.elim (by rw [nI_lt1 (by omega) (by omega)] at c_19; omega)) (fun c_19 => ?_)
    refine x_aload_n 0 DX12_daysOf_22 rfl rfl ?_
    refine x_getr 40 (some 73) DX12_daysOf_23 (Or.inr F12_107) rfl rfl (hF.1 40 40 73 rfl) ?_
    refine x_iload_n 2 DX12_daysOf_26 rfl rfl ?_
    refine x_aload_n 0 DX12_daysOf_27 rfl rfl ?_
    refine x_getr 40 (some 73) DX12_daysOf_28 (Or.inr F12_107) rfl rfl (hF.1 40 40 73 rfl) ?_
    refine x_iload_n 2 DX12_daysOf_31 rfl rfl ?_
    refine x_iconst 1 DX12_daysOf_32 (by decide) ?_
    refine x_isub DX12_daysOf_33 ?_
    rw [show (1 : Int32) = nI 1 from rfl, pk_sub (by omega), Nat.add_sub_cancel]
    refine x_iald (v := (z 73 i)) i (nI_cl1 (by omega)) DX12_daysOf_34 rfl (gIn.fx hF (c := 73) (n := 9) rfl (gIn_nI (by omega) (by omega))) rfl ?_
    refine x_aload_n 0 DX12_daysOf_35 rfl rfl ?_
    refine x_getr 35 (some 68) DX12_daysOf_36 (Or.inr F12_92) rfl rfl (hF.1 40 35 68 rfl) ?_
    refine x_aload_n 0 DX12_daysOf_39 rfl rfl ?_
    refine x_getr 38 (some 71) DX12_daysOf_40 (Or.inr F12_101) rfl rfl (hF.1 40 38 71 rfl) ?_
    refine x_iload_n 2 DX12_daysOf_43 rfl rfl ?_
    refine x_iconst 1 DX12_daysOf_44 (by decide) ?_
    refine x_isub DX12_daysOf_45 ?_
    rw [show (1 : Int32) = nI 1 from rfl, pk_sub (by omega), Nat.add_sub_cancel]
    refine x_iald (v := (nI (rwM z i))) i (nI_cl1 (by omega)) DX12_daysOf_46 rfl (gIn.fx hF (c := 71) (n := 8) rfl (gIn_nI (by omega) (by omega))) ((hRz i hi).1) ?_
    refine x_iald (v := (z 68 (rwM z i))) (rwM z i) (nI_cl1 (by omega)) DX12_daysOf_47 rfl (gIn.fx hF (c := 68) (n := 12) rfl (gIn_nI (by omega) (by omega))) rfl ?_
    refine x_iadd DX12_daysOf_48 ?_
    refine x_iast (i + 1) (nI_cl1 (by omega)) DX12_daysOf_49 rfl (gIn.fx hF (c := 73) (n := 9) rfl (gIn_nI (by omega) (by omega))) (fun ι49 e_ι49 => ?_)
    refine x_iconst 0 DX12_daysOf_50 (by decide) ?_
    refine x_istore_n 3 (lv' := [some (vR 40), some (vI hh), some (vI (nI (i + 1))), some (vI 0), none, none, none, none, none]) DX12_daysOf_51 rfl ⟨nlt rfl, nlt rfl⟩ rfl ?_
    refine x_iconst 0 DX12_daysOf_52 (by decide) ?_
    refine x_istore (lv' := [some (vR 40), some (vI hh), some (vI (nI (i + 1))), some (vI 0), some (vI 0), none, none, none, none]) DX12_daysOf_53 ⟨nlt rfl, nlt rfl⟩ rfl ?_
    refine x_iconst 1 DX12_daysOf_55 (by decide) ?_
    refine x_istore (lv' := [some (vR 40), some (vI hh), some (vI (nI (i + 1))), some (vI 0), some (vI 0), some (vI 1), none, none, none]) DX12_daysOf_56 ⟨nlt rfl, nlt rfl⟩ rfl ?_
    refine x_iload_n 2 DX12_daysOf_58 rfl rfl ?_
    refine x_iconst 1 DX12_daysOf_59 (by decide) ?_
    refine x_isub DX12_daysOf_60 ?_
    rw [show (1 : Int32) = nI 1 from rfl, pk_sub (by omega), Nat.add_sub_cancel]
    refine x_istore (lv' := [some (vR 40), some (vI hh), some (vI (nI (i + 1))), some (vI 0), some (vI 0), some (vI 1), some (vI (nI i)), none, none]) DX12_daysOf_61 ⟨nlt rfl, nlt rfl⟩ rfl ?_
    have loop : ∀ (f : Nat) (sm lg t d : Int32) (y : gIm), f ≤ i + 1 → (t = 0 ∨ t = 1) → y = up2 z 73 (i + 1) d → (if t = 0 then d else dyN z hh (i + 1) f sm lg d) = dyN z hh (i + 1) (i + 1) 0 0 (z 73 i + z 68 (rwM z i)) → gX K none 2 0 0 jX12_daysOf 63 [some (vR 40), some (vI hh), some (vI (nI (i + 1))), some (vI sm), some (vI lg), some (vI t), some (vI ((nI f) + (-1))), none, none] [] 0 0 y ρ Λ (fun r2 a b c => r2 = (some (vI (mDy hh ns ι 73 ns))) ∧ a = (mDy hh ns ι) ∧ b = ρ ∧ c = Λ) := by
      intro f
      induction f with
      | zero =>
        intro sm lg t d y hf ht hy he
        refine x_iload DX12_daysOf_63 rfl ?_
        refine x_if_lt 220 DX12_daysOf_65 (by decide) (fun c_65 => ?_) (fun c_65 => False.elim (c_65 (by decide)))
        refine x_iinc ((nI (i + 1)) + 1) (lv' := [some (vR 40), some (vI hh), some (vI ((nI (i + 1)) + 1)), some (vI sm), some (vI lg), some (vI t), some (vI ((nI 0) + (-1))), none, none]) DX12_daysOf_220 rfl rfl (nlt rfl) rfl ?_
        refine x_goto 14 DX12_daysOf_223 (by decide) ?_
        refine x_less (lv' := [some (vR 40), some (vI hh), some (vI ((nI (i + 1)) + 1)), none, none, none, none, none, none]) (less_ok (m := [true, true, true, false, false, false, false, false, false]) rfl) ?_
        refine x_lv (lv' := [some (vR 40), some (vI hh), some (vI (nI (i + 1 + 1))), none, none, none, none, none, none]) (lvS (lvS (lvI (nI_1 (i + 1)) (lvS (lvS (lvS (lvS (lvS (lvS rfl))))))))) ?_
        have e : mDy1 hh i z = y := by rw [mDy1, hy, ← he]; congr 1; unfold dyN; split <;> rfl
        rw [e] at ih
        exact ih
      | succ f ihf =>
        intro sm lg t d y hf ht hy he
        refine x_lv (lv' := [some (vR 40), some (vI hh), some (vI (nI (i + 1))), some (vI sm), some (vI lg), some (vI t), some (vI (nI f)), none, none]) (lvS (lvS (lvS (lvS (lvS (lvS (lvI (pk_m1 f) rfl))))))) ?_
        have hrf := (hRz f (by omega)).2
        have hyc : ∀ c, c ≠ 73 → y c = z c := fun c hc => by rw [hy, up2_ne _ _ _ hc]
        have hyf : y 73 f = z 73 f := by rw [hy, up2_row, va_up_ne _ _ (by omega)]
        have hyd : y 73 (i + 1) = d := by rw [hy, up2_row, va_up_self]
        rcases ht with ht | ht
        · subst ht
          rw [if_pos rfl] at he
          refine x_iload DX12_daysOf_63 rfl ?_
          refine x_if_lt 220 DX12_daysOf_65 (by decide) (fun c_65 => False.elim ((nI_pos (by omega)) c_65)) (fun c_65 => ?_)
          refine x_iload DX12_daysOf_68 rfl ?_
          refine x_if_eq 220 DX12_daysOf_70 (by decide) (fun _ => ?_) (fun h => absurd h (by decide))
          refine x_iinc ((nI (i + 1)) + 1) (lv' := [some (vR 40), some (vI hh), some (vI ((nI (i + 1)) + 1)), some (vI sm), some (vI lg), some (vI 0), some (vI (nI f)), none, none]) DX12_daysOf_220 rfl rfl (nlt rfl) rfl ?_
          refine x_goto 14 DX12_daysOf_223 (by decide) ?_
          refine x_less (lv' := [some (vR 40), some (vI hh), some (vI ((nI (i + 1)) + 1)), none, none, none, none, none, none]) (less_ok (m := [true, true, true, false, false, false, false, false, false]) rfl) ?_
          refine x_lv (lv' := [some (vR 40), some (vI hh), some (vI (nI (i + 1 + 1))), none, none, none, none, none, none]) (lvS (lvS (lvI (nI_1 (i + 1)) (lvS (lvS (lvS (lvS (lvS (lvS rfl))))))))) ?_
          have e : mDy1 hh i z = y := by rw [mDy1, hy, ← he]
          rw [e] at ih
          exact ih
        · subst ht
          rw [if_neg (by decide), dyN] at he
          refine x_iload DX12_daysOf_63 rfl ?_
          refine x_if_lt 220 DX12_daysOf_65 (by decide) (fun c_65 => False.elim ((nI_pos (by omega)) c_65)) (fun c_65 => ?_)
          refine x_iload DX12_daysOf_68 rfl ?_
          refine x_if_eq 220 DX12_daysOf_70 (by decide) (fun h => absurd h (by decide)) (fun _ => ?_)
          refine x_aload_n 0 DX12_daysOf_73 rfl rfl ?_
          refine x_getr 38 (some 71) DX12_daysOf_74 (Or.inr F12_101) rfl rfl (hF.1 40 38 71 rfl) ?_
          refine x_iload DX12_daysOf_77 rfl ?_
          refine x_iald (v := (nI (rwM z f))) f (nI_cl1 (by omega)) DX12_daysOf_79 rfl (gIn.fx hF (c := 71) (n := 8) rfl (gIn_nI (by omega) (by omega))) (by rw [hyc 71 (by decide)]; exact (hRz f (by omega)).1) ?_
          refine x_istore (lv' := [some (vR 40), some (vI hh), some (vI (nI (i + 1))), some (vI sm), some (vI lg), some (vI 1), some (vI (nI f)), some (vI (nI (rwM z f))), none]) DX12_daysOf_80 ⟨nlt rfl, nlt rfl⟩ rfl ?_
          refine x_iload_n 3 DX12_daysOf_82 rfl rfl ?_
          refine x_aload_n 0 DX12_daysOf_83 rfl rfl ?_
          refine x_getr 36 (some 69) DX12_daysOf_84 (Or.inr F12_95) rfl rfl (hF.1 40 36 69 rfl) ?_
          refine x_iload DX12_daysOf_87 rfl ?_
          refine x_iald (v := (z 69 (rwM z f))) (rwM z f) (nI_cl1 (by have := (hRz f (by omega)).2; omega)) DX12_daysOf_89 rfl (gIn.fx hF (c := 69) (n := 12) rfl (gIn_nI (by have := (hRz f (by omega)).2; omega) (by have := (hRz f (by omega)).2; omega))) (by rw [hyc 69 (by decide)]) ?_
          refine x_iadd DX12_daysOf_90 ?_
          refine x_istore_n 3 (lv' := [some (vR 40), some (vI hh), some (vI (nI (i + 1))), some (vI (sm + (z 69 (rwM z f)))), some (vI lg), some (vI 1), some (vI (nI f)), some (vI (nI (rwM z f))), none]) DX12_daysOf_91 rfl ⟨nlt rfl, nlt rfl⟩ rfl ?_
          refine x_iload DX12_daysOf_92 rfl ?_
          refine x_aload_n 0 DX12_daysOf_94 rfl rfl ?_
          refine x_getr 35 (some 68) DX12_daysOf_95 (Or.inr F12_92) rfl rfl (hF.1 40 35 68 rfl) ?_
          refine x_iload DX12_daysOf_98 rfl ?_
          refine x_iald (v := (z 68 (rwM z f))) (rwM z f) (nI_cl1 (by have := (hRz f (by omega)).2; omega)) DX12_daysOf_100 rfl (gIn.fx hF (c := 68) (n := 12) rfl (gIn_nI (by have := (hRz f (by omega)).2; omega) (by have := (hRz f (by omega)).2; omega))) (by rw [hyc 68 (by decide)]) ?_
          refine x_Se (av := [vI lg, vI (z 68 (rwM z f))]) (rest := []) (st' := [vI (imax lg (z 68 (rwM z f)))]) 0 0 DX12_daysOf_101 L12_135 rfl rfl ⟨nle rfl, nle rfl, nle rfl⟩ ⟨rfl, nle rfl⟩ ⟨rfl, nle rfl⟩ (j_max K lg (z 68 (rwM z f)) y ρ Λ) rfl ?_
          refine x_istore (lv' := [some (vR 40), some (vI hh), some (vI (nI (i + 1))), some (vI (sm + (z 69 (rwM z f)))), some (vI (imax lg (z 68 (rwM z f)))), some (vI 1), some (vI (nI f)), some (vI (nI (rwM z f))), none]) DX12_daysOf_104 ⟨nlt rfl, nlt rfl⟩ rfl ?_
          refine x_iload DX12_daysOf_106 rfl ?_
          refine x_iconst 1 DX12_daysOf_108 (by decide) ?_
          refine x_iadd DX12_daysOf_109 ?_
          refine x_istore (lv' := [some (vR 40), some (vI hh), some (vI (nI (i + 1))), some (vI (sm + (z 69 (rwM z f)))), some (vI (imax lg (z 68 (rwM z f)))), some (vI 1), some (vI (nI f)), some (vI (nI (rwM z f))), some (vI ((nI f) + 1))]) DX12_daysOf_110 ⟨nlt rfl, nlt rfl⟩ rfl ?_
          refine x_lv (lv' := [some (vR 40), some (vI hh), some (vI (nI (i + 1))), some (vI (sm + (z 69 (rwM z f)))), some (vI (imax lg (z 68 (rwM z f)))), some (vI 1), some (vI (nI f)), some (vI (nI (rwM z f))), some (vI (nI (f + 1)))]) (lvS (lvS (lvS (lvS (lvS (lvS (lvS (lvS (lvI (nI_1 f) rfl))))))))) ?_
          refine lp0 (W := fun (j : Nat) (t : Int32) => gX K none 2 0 0 jX12_daysOf 112 [some (vR 40), some (vI hh), some (vI (nI (i + 1))), some (vI (sm + (z 69 (rwM z f)))), some (vI (imax lg (z 68 (rwM z f)))), some (vI t), some (vI (nI f)), some (vI (nI (rwM z f))), some (vI (nI j))] [] 0 0 y ρ Λ (fun r2 a b c => r2 = (some (vI (mDy hh ns ι 73 ns))) ∧ a = (mDy hh ns ι) ∧ b = ρ ∧ c = Λ)) (tg1 z (rwM z f)) (i + 1) (fun j t hj ih2 => ?_) (f + 1) 1 (by omega) ?_
          · refine x_iload DX12_daysOf_112 rfl ?_
            refine x_iload_n 2 DX12_daysOf_114 rfl rfl ?_
            refine x_icmp_ge 156 DX12_daysOf_115 (by decide) (fun c_115 => False.elim (by rw [nI_le1 (by omega) (by omega)] at c_115; omega)) (fun c_115 => ?_)
            refine x_iload DX12_daysOf_118 rfl ?_
            refine x_if_eq 147 DX12_daysOf_120 (by decide) (fun c_120 => ?_) (fun c_120 => ?_)
            · refine x_iconst 0 DX12_daysOf_147 (by decide) ?_
              refine x_istore (lv' := [some (vR 40), some (vI hh), some (vI (nI (i + 1))), some (vI (sm + (z 69 (rwM z f)))), some (vI (imax lg (z 68 (rwM z f)))), some (vI 0), some (vI (nI f)), some (vI (nI (rwM z f))), some (vI (nI j))]) DX12_daysOf_148 ⟨nlt rfl, nlt rfl⟩ rfl ?_
              refine x_iinc ((nI j) + 1) (lv' := [some (vR 40), some (vI hh), some (vI (nI (i + 1))), some (vI (sm + (z 69 (rwM z f)))), some (vI (imax lg (z 68 (rwM z f)))), some (vI 0), some (vI (nI f)), some (vI (nI (rwM z f))), some (vI ((nI j) + 1))]) DX12_daysOf_150 rfl rfl (nlt rfl) rfl ?_
              refine x_goto 112 DX12_daysOf_153 (by decide) ?_
              refine x_lv (lv' := [some (vR 40), some (vI hh), some (vI (nI (i + 1))), some (vI (sm + (z 69 (rwM z f)))), some (vI (imax lg (z 68 (rwM z f)))), some (vI (tg1 z (rwM z f) j t)), some (vI (nI f)), some (vI (nI (rwM z f))), some (vI (nI (j + 1)))]) (lvS (lvS (lvS (lvS (lvS (lvI (by unfold tg1; rw [if_neg (by grind)]) (lvS (lvS (lvI (nI_1 j) rfl))))))))) ?_
              exact ih2
            · refine x_aload_n 0 DX12_daysOf_123 rfl rfl ?_
              refine x_getr 37 (some 70) DX12_daysOf_124 (Or.inr F12_98) rfl rfl (hF.1 40 37 70 rfl) ?_
              refine x_aload_n 0 DX12_daysOf_127 rfl rfl ?_
              refine x_getr 38 (some 71) DX12_daysOf_128 (Or.inr F12_101) rfl rfl (hF.1 40 38 71 rfl) ?_
              refine x_iload DX12_daysOf_131 rfl ?_
              refine x_iald (v := (nI (rwM z j))) j (nI_cl1 (by omega)) DX12_daysOf_133 rfl (gIn.fx hF (c := 71) (n := 8) rfl (gIn_nI (by omega) (by omega))) (by rw [hyc 71 (by decide)]; exact (hRz j (by omega)).1) ?_
              refine x_iald (v := (z 70 (rwM z j))) (rwM z j) (nI_cl1 (by have := (hRz j (by omega)).2; omega)) DX12_daysOf_134 rfl (gIn.fx hF (c := 70) (n := 12) rfl (gIn_nI (by have := (hRz j (by omega)).2; omega) (by have := (hRz j (by omega)).2; omega))) (by rw [hyc 70 (by decide)]) ?_
              refine x_iload DX12_daysOf_135 rfl ?_
              refine x_ishr DX12_daysOf_137 ?_
              refine x_iconst 1 DX12_daysOf_138 (by decide) ?_
              refine x_iand DX12_daysOf_139 ?_
              refine x_if_ne 147 DX12_daysOf_140 (by decide) (fun c_140 => ?_) (fun c_140 => ?_)
              · refine x_iconst 0 DX12_daysOf_147 (by decide) ?_
                refine x_istore (lv' := [some (vR 40), some (vI hh), some (vI (nI (i + 1))), some (vI (sm + (z 69 (rwM z f)))), some (vI (imax lg (z 68 (rwM z f)))), some (vI 0), some (vI (nI f)), some (vI (nI (rwM z f))), some (vI (nI j))]) DX12_daysOf_148 ⟨nlt rfl, nlt rfl⟩ rfl ?_
                refine x_iinc ((nI j) + 1) (lv' := [some (vR 40), some (vI hh), some (vI (nI (i + 1))), some (vI (sm + (z 69 (rwM z f)))), some (vI (imax lg (z 68 (rwM z f)))), some (vI 0), some (vI (nI f)), some (vI (nI (rwM z f))), some (vI ((nI j) + 1))]) DX12_daysOf_150 rfl rfl (nlt rfl) rfl ?_
                refine x_goto 112 DX12_daysOf_153 (by decide) ?_
                refine x_lv (lv' := [some (vR 40), some (vI hh), some (vI (nI (i + 1))), some (vI (sm + (z 69 (rwM z f)))), some (vI (imax lg (z 68 (rwM z f)))), some (vI (tg1 z (rwM z f) j t)), some (vI (nI f)), some (vI (nI (rwM z f))), some (vI (nI (j + 1)))]) (lvS (lvS (lvS (lvS (lvS (lvI (by unfold tg1; rw [if_neg (by grind)]) (lvS (lvS (lvI (nI_1 j) rfl))))))))) ?_
                exact ih2
              · refine x_iconst 1 DX12_daysOf_143 (by decide) ?_
                refine x_goto 148 DX12_daysOf_144 (by decide) ?_
                refine x_istore (lv' := [some (vR 40), some (vI hh), some (vI (nI (i + 1))), some (vI (sm + (z 69 (rwM z f)))), some (vI (imax lg (z 68 (rwM z f)))), some (vI 1), some (vI (nI f)), some (vI (nI (rwM z f))), some (vI (nI j))]) DX12_daysOf_148 ⟨nlt rfl, nlt rfl⟩ rfl ?_
                refine x_iinc ((nI j) + 1) (lv' := [some (vR 40), some (vI hh), some (vI (nI (i + 1))), some (vI (sm + (z 69 (rwM z f)))), some (vI (imax lg (z 68 (rwM z f)))), some (vI 1), some (vI (nI f)), some (vI (nI (rwM z f))), some (vI ((nI j) + 1))]) DX12_daysOf_150 rfl rfl (nlt rfl) rfl ?_
                refine x_goto 112 DX12_daysOf_153 (by decide) ?_
                refine x_lv (lv' := [some (vR 40), some (vI hh), some (vI (nI (i + 1))), some (vI (sm + (z 69 (rwM z f)))), some (vI (imax lg (z 68 (rwM z f)))), some (vI (tg1 z (rwM z f) j t)), some (vI (nI f)), some (vI (nI (rwM z f))), some (vI (nI (j + 1)))]) (lvS (lvS (lvS (lvS (lvS (lvI (by unfold tg1; rw [if_pos ⟨by assumption, by assumption⟩]) (lvS (lvS (lvI (nI_1 j) rfl))))))))) ?_
                exact ih2
          · generalize hte : (fo (tg1 z (rwM z f)) (i + 1 - (f + 1)) (f + 1) 1) = tf at he ⊢
            show gX K none 2 0 0 jX12_daysOf 112 [some (vR 40), some (vI hh), some (vI (nI (i + 1))), some (vI (sm + (z 69 (rwM z f)))), some (vI (imax lg (z 68 (rwM z f)))), some (vI tf), some (vI (nI f)), some (vI (nI (rwM z f))), some (vI (nI (i + 1)))] [] 0 0 y ρ Λ (fun r2 a b c => r2 = (some (vI (mDy hh ns ι 73 ns))) ∧ a = (mDy hh ns ι) ∧ b = ρ ∧ c = Λ)
            refine x_iload DX12_daysOf_112 rfl ?_
            refine x_iload_n 2 DX12_daysOf_114 rfl rfl ?_
            refine x_icmp_ge 156 DX12_daysOf_115 (by decide) (fun c_115 => ?_) (fun c_115 => False.elim (c_115 (nI_le (Nat.le_refl _) (by omega))))
            refine x_iload DX12_daysOf_156 rfl ?_
            refine x_if_eq 181 DX12_daysOf_158 (by decide) (fun c_158 => ?_) (fun c_158 => ?_)
            · refine x_iconst 0 DX12_daysOf_181 (by decide) ?_
              refine x_istore (lv' := [some (vR 40), some (vI hh), some (vI (nI (i + 1))), some (vI (sm + (z 69 (rwM z f)))), some (vI (imax lg (z 68 (rwM z f)))), some (vI 0), some (vI (nI f)), some (vI (nI (rwM z f))), some (vI (nI (i + 1)))]) DX12_daysOf_182 ⟨nlt rfl, nlt rfl⟩ rfl ?_
              refine x_iload DX12_daysOf_184 rfl ?_
              refine x_if_eq 214 DX12_daysOf_186 (by decide) (fun _ => ?_) (fun h => absurd h (by decide))
              refine x_iinc ((nI f) + (-1)) (lv' := [some (vR 40), some (vI hh), some (vI (nI (i + 1))), some (vI (sm + (z 69 (rwM z f)))), some (vI (imax lg (z 68 (rwM z f)))), some (vI 0), some (vI ((nI f) + (-1))), some (vI (nI (rwM z f))), some (vI (nI (i + 1)))]) DX12_daysOf_214 rfl rfl (nlt rfl) rfl ?_
              refine x_goto 63 DX12_daysOf_217 (by decide) ?_
              refine x_less (lv' := [some (vR 40), some (vI hh), some (vI (nI (i + 1))), some (vI (sm + (z 69 (rwM z f)))), some (vI (imax lg (z 68 (rwM z f)))), some (vI 0), some (vI ((nI f) + (-1))), none, none]) (less_ok (m := [true, true, true, true, true, true, true, false, false]) rfl) ?_
              exact ihf _ _ 0 d y (by omega) (Or.inl rfl) hy (by rw [if_pos rfl]; rw [if_neg (by grind)] at he; exact he)
            · refine x_aload_n 0 DX12_daysOf_161 rfl rfl ?_
              refine x_getr 33 (some 66) DX12_daysOf_162 (Or.inr F12_86) rfl rfl (hF.1 40 33 66 rfl) ?_
              refine x_iload DX12_daysOf_165 rfl ?_
              refine x_iald (v := (z 66 (rwM z f))) (rwM z f) (nI_cl1 (by have := (hRz f (by omega)).2; omega)) DX12_daysOf_167 rfl (gIn.fx hF (c := 66) (n := 12) rfl (gIn_nI (by have := (hRz f (by omega)).2; omega) (by have := (hRz f (by omega)).2; omega))) (by rw [hyc 66 (by decide)]) ?_
              refine x_iconst 2 DX12_daysOf_168 (by decide) ?_
              refine x_icmp_ne 181 DX12_daysOf_169 (by decide) (fun c_169 => ?_) (fun c_169 => ?_)
              · refine x_iconst 0 DX12_daysOf_181 (by decide) ?_
                refine x_istore (lv' := [some (vR 40), some (vI hh), some (vI (nI (i + 1))), some (vI (sm + (z 69 (rwM z f)))), some (vI (imax lg (z 68 (rwM z f)))), some (vI 0), some (vI (nI f)), some (vI (nI (rwM z f))), some (vI (nI (i + 1)))]) DX12_daysOf_182 ⟨nlt rfl, nlt rfl⟩ rfl ?_
                refine x_iload DX12_daysOf_184 rfl ?_
                refine x_if_eq 214 DX12_daysOf_186 (by decide) (fun _ => ?_) (fun h => absurd h (by decide))
                refine x_iinc ((nI f) + (-1)) (lv' := [some (vR 40), some (vI hh), some (vI (nI (i + 1))), some (vI (sm + (z 69 (rwM z f)))), some (vI (imax lg (z 68 (rwM z f)))), some (vI 0), some (vI ((nI f) + (-1))), some (vI (nI (rwM z f))), some (vI (nI (i + 1)))]) DX12_daysOf_214 rfl rfl (nlt rfl) rfl ?_
                refine x_goto 63 DX12_daysOf_217 (by decide) ?_
                refine x_less (lv' := [some (vR 40), some (vI hh), some (vI (nI (i + 1))), some (vI (sm + (z 69 (rwM z f)))), some (vI (imax lg (z 68 (rwM z f)))), some (vI 0), some (vI ((nI f) + (-1))), none, none]) (less_ok (m := [true, true, true, true, true, true, true, false, false]) rfl) ?_
                exact ihf _ _ 0 d y (by omega) (Or.inl rfl) hy (by rw [if_pos rfl]; rw [if_neg (by grind)] at he; exact he)
              · refine x_iload_n 3 DX12_daysOf_172 rfl rfl ?_
                refine x_iload_n 1 DX12_daysOf_173 rfl rfl ?_
                refine x_icmp_gt 181 DX12_daysOf_174 (by decide) (fun c_174 => ?_) (fun c_174 => ?_)
                · refine x_iconst 0 DX12_daysOf_181 (by decide) ?_
                  refine x_istore (lv' := [some (vR 40), some (vI hh), some (vI (nI (i + 1))), some (vI (sm + (z 69 (rwM z f)))), some (vI (imax lg (z 68 (rwM z f)))), some (vI 0), some (vI (nI f)), some (vI (nI (rwM z f))), some (vI (nI (i + 1)))]) DX12_daysOf_182 ⟨nlt rfl, nlt rfl⟩ rfl ?_
                  refine x_iload DX12_daysOf_184 rfl ?_
                  refine x_if_eq 214 DX12_daysOf_186 (by decide) (fun _ => ?_) (fun h => absurd h (by decide))
                  refine x_iinc ((nI f) + (-1)) (lv' := [some (vR 40), some (vI hh), some (vI (nI (i + 1))), some (vI (sm + (z 69 (rwM z f)))), some (vI (imax lg (z 68 (rwM z f)))), some (vI 0), some (vI ((nI f) + (-1))), some (vI (nI (rwM z f))), some (vI (nI (i + 1)))]) DX12_daysOf_214 rfl rfl (nlt rfl) rfl ?_
                  refine x_goto 63 DX12_daysOf_217 (by decide) ?_
                  refine x_less (lv' := [some (vR 40), some (vI hh), some (vI (nI (i + 1))), some (vI (sm + (z 69 (rwM z f)))), some (vI (imax lg (z 68 (rwM z f)))), some (vI 0), some (vI ((nI f) + (-1))), none, none]) (less_ok (m := [true, true, true, true, true, true, true, false, false]) rfl) ?_
                  exact ihf _ _ 0 d y (by omega) (Or.inl rfl) hy (by rw [if_pos rfl]; rw [if_neg (by grind)] at he; exact he)
                · refine x_iconst 1 DX12_daysOf_177 (by decide) ?_
                  refine x_goto 182 DX12_daysOf_178 (by decide) ?_
                  refine x_istore (lv' := [some (vR 40), some (vI hh), some (vI (nI (i + 1))), some (vI (sm + (z 69 (rwM z f)))), some (vI (imax lg (z 68 (rwM z f)))), some (vI 1), some (vI (nI f)), some (vI (nI (rwM z f))), some (vI (nI (i + 1)))]) DX12_daysOf_182 ⟨nlt rfl, nlt rfl⟩ rfl ?_
                  refine x_iload DX12_daysOf_184 rfl ?_
                  refine x_if_eq 214 DX12_daysOf_186 (by decide) (fun h => absurd h (by decide)) (fun _ => ?_)
                  refine x_aload_n 0 DX12_daysOf_189 rfl rfl ?_
                  refine x_getr 40 (some 73) DX12_daysOf_190 (Or.inr F12_107) rfl rfl (hF.1 40 40 73 rfl) ?_
                  refine x_iload_n 2 DX12_daysOf_193 rfl rfl ?_
                  refine x_aload_n 0 DX12_daysOf_194 rfl rfl ?_
                  refine x_getr 40 (some 73) DX12_daysOf_195 (Or.inr F12_107) rfl rfl (hF.1 40 40 73 rfl) ?_
                  refine x_iload_n 2 DX12_daysOf_198 rfl rfl ?_
                  refine x_iald (v := d) (i + 1) (nI_cl1 (by omega)) DX12_daysOf_199 rfl (gIn.fx hF (c := 73) (n := 9) rfl (gIn_nI (by omega) (by omega))) hyd ?_
                  refine x_aload_n 0 DX12_daysOf_200 rfl rfl ?_
                  refine x_getr 40 (some 73) DX12_daysOf_201 (Or.inr F12_107) rfl rfl (hF.1 40 40 73 rfl) ?_
                  refine x_iload DX12_daysOf_204 rfl ?_
                  refine x_iald (v := (z 73 f)) f (nI_cl1 (by omega)) DX12_daysOf_206 rfl (gIn.fx hF (c := 73) (n := 9) rfl (gIn_nI (by omega) (by omega))) hyf ?_
                  refine x_iload DX12_daysOf_207 rfl ?_
                  refine x_iadd DX12_daysOf_209 ?_
                  refine x_Se (av := [vI d, vI ((z 73 f) + (imax lg (z 68 (rwM z f))))]) (rest := [vI (nI (i + 1)), vR 73]) (st' := [vI (imin d ((z 73 f) + (imax lg (z 68 (rwM z f))))), vI (nI (i + 1)), vR 73]) 0 0 DX12_daysOf_210 L12_178 rfl rfl ⟨nle rfl, nle rfl, nle rfl⟩ ⟨rfl, nle rfl⟩ ⟨rfl, nle rfl⟩ (j_min K d ((z 73 f) + (imax lg (z 68 (rwM z f)))) y ρ Λ) rfl ?_
                  refine x_iast (i + 1) (nI_cl1 (by omega)) DX12_daysOf_213 rfl (gIn.fx hF (c := 73) (n := 9) rfl (gIn_nI (by omega) (by omega))) (fun ι213 e_ι213 => ?_)
                  refine x_iinc ((nI f) + (-1)) (lv' := [some (vR 40), some (vI hh), some (vI (nI (i + 1))), some (vI (sm + (z 69 (rwM z f)))), some (vI (imax lg (z 68 (rwM z f)))), some (vI 1), some (vI ((nI f) + (-1))), some (vI (nI (rwM z f))), some (vI (nI (i + 1)))]) DX12_daysOf_214 rfl rfl (nlt rfl) rfl ?_
                  refine x_goto 63 DX12_daysOf_217 (by decide) ?_
                  refine x_less (lv' := [some (vR 40), some (vI hh), some (vI (nI (i + 1))), some (vI (sm + (z 69 (rwM z f)))), some (vI (imax lg (z 68 (rwM z f)))), some (vI 1), some (vI ((nI f) + (-1))), none, none]) (less_ok (m := [true, true, true, true, true, true, true, false, false]) rfl) ?_
                  exact ihf _ _ 1 (imin d (z 73 f + (imax lg (z 68 (rwM z f))))) ι213 (by omega) (Or.inr rfl) (by rw [e_ι213, hy, up2_up2]) (by rw [if_neg (by decide)]; rw [if_pos ⟨by assumption, by assumption, Int32.not_lt.mp (by assumption)⟩] at he; exact he)
    refine x_lv (lv' := [some (vR 40), some (vI hh), some (vI (nI (i + 1))), some (vI 0), some (vI 0), some (vI 1), some (vI ((nI (i + 1)) + (-1))), none, none]) (lvS (lvS (lvS (lvS (lvS (lvS (lvI (pk_m1 i).symm rfl))))))) ?_
    exact loop (i + 1) 0 0 1 (z 73 i + z 68 (rwM z i)) _ (Nat.le_refl _) (Or.inr rfl) (by rw [e_ι49]) (by rw [if_neg (by decide)])
  · have hx : fo (mDy1 hh) (ns - 0) 0 (up2 ι 73 0 0) = mDy hh ns ι := rfl
    rw [hx] at hJ ⊢
    refine x_iload_n 2 DX12_daysOf_14 rfl rfl ?_
    refine x_aload_n 0 DX12_daysOf_15 rfl rfl ?_
    refine x_geti (v := (nI ns)) 8 DX12_daysOf_16 (Or.inl F12_216) rfl rfl (by rw [hJ 40 (by decide)]; exact hS) ?_
    refine x_icmp_gt 226 DX12_daysOf_19 (by decide) (fun c_19 => ?_) (fun c_19 => False.elim (c_19 (nI_lt (by omega) (by omega))))
    refine x_aload_n 0 DX12_daysOf_226 rfl rfl ?_
    refine x_getr 40 (some 73) DX12_daysOf_227 (Or.inr F12_107) rfl rfl (hF.1 40 40 73 rfl) ?_
    refine x_aload_n 0 DX12_daysOf_230 rfl rfl ?_
    refine x_geti (v := (nI ns)) 8 DX12_daysOf_231 (Or.inl F12_216) rfl rfl (by rw [hJ 40 (by decide)]; exact hS) ?_
    refine x_iald (v := ((mDy hh ns ι) 73 ns)) ns (nI_cl1 (by omega)) DX12_daysOf_234 rfl (gIn.fx hF (c := 73) (n := 9) rfl (gIn_nI (by omega) (by omega))) rfl ?_
    exact x_ireturn DX12_daysOf_235 rfl ⟨rfl, rfl, rfl, rfl⟩
