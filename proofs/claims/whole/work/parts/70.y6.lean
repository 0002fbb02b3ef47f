/-! the model, XIV: the master -/
theorem m_master (K : gK)  (ι : gIm) (ρ : gRm) (Λ : gLm) (hF : gFix ρ Λ) (np : Nat) (hP : ι 40 9 = nI np) (hp : np ≤ 30) (hPar : ∀ c q, c < np → q < np → ι 74 c = nI q → bKey (ι 75) q < bKey (ι 75) c) : gCe K 36 0 0 jX12_master [vR 40] ι ρ Λ (some (vI (msN (ι 74) (ι 75) (ι 76) np (ι 40 2) np 0 (-9)))) ι ρ Λ := by
  refine gC_of (by decide) (nle rfl) ?_
  refine x_bipush (-9) DX12_master_0 (by decide) ?_
  refine x_istore_n 1 (lv' := [some (vR 40), some (vI (-9)), none]) DX12_master_2 rfl ⟨nlt rfl, nlt rfl⟩ rfl ?_
  refine x_iconst 0 DX12_master_3 (by decide) ?_
  refine x_istore_n 2 (lv' := [some (vR 40), some (vI (-9)), some (vI 0)]) DX12_master_4 rfl ⟨nlt rfl, nlt rfl⟩ rfl ?_
  have loop : ∀ (n i : Nat) (b0 : Int32), i + n = np → msN (ι 74) (ι 75) (ι 76) np (ι 40 2) n i b0 = msN (ι 74) (ι 75) (ι 76) np (ι 40 2) np 0 (-9) → gX K none 36 0 0 jX12_master 5 [some (vR 40), some (vI b0), some (vI (nI i))] [] 0 0 ι ρ Λ (fun r2 a b c => r2 = (some (vI (msN (ι 74) (ι 75) (ι 76) np (ι 40 2) np 0 (-9)))) ∧ a = ι ∧ b = ρ ∧ c = Λ) := by
    intro n
    induction n with
    | zero =>
      intro i b0 hi he
      refine x_iload_n 2 DX12_master_5 rfl rfl ?_
      refine x_aload_n 0 DX12_master_6 rfl rfl ?_
      refine x_geti (v := (nI np)) 9 DX12_master_7 (Or.inl F12_235) rfl rfl hP ?_
      refine x_icmp_ge 39 DX12_master_10 (by decide) (fun c_10 => ?_) (fun c_10 => False.elim (c_10 (nI_le (by omega) (by omega))))
      refine x_iload_n 1 DX12_master_39 rfl rfl ?_
      exact x_ireturn DX12_master_40 rfl ⟨by rw [← he]; rfl, rfl, rfl, rfl⟩
    | succ n ihn =>
      intro i b0 hi he
      rw [msN] at he
      refine x_iload_n 2 DX12_master_5 rfl rfl ?_
      refine x_aload_n 0 DX12_master_6 rfl rfl ?_
      refine x_geti (v := (nI np)) 9 DX12_master_7 (Or.inl F12_235) rfl rfl hP ?_
      refine x_icmp_ge 39 DX12_master_10 (by decide) (fun c_10 => False.elim (by rw [nI_le1 (by omega) (by omega)] at c_10; omega)) (fun c_10 => ?_)
      refine x_iload_n 1 DX12_master_13 rfl rfl ?_
      refine x_if_ge 39 DX12_master_14 (by decide) (fun c_14 => ?_) (fun c_14 => ?_)
      · refine x_iload_n 1 DX12_master_39 rfl rfl ?_
        exact x_ireturn DX12_master_40 rfl ⟨by rw [if_neg (Int32.not_lt.mpr (by assumption))] at he; rw [← he], rfl, rfl, rfl⟩
      · refine x_aload_n 0 DX12_master_17 rfl rfl ?_
        refine x_getr 42 (some 74) DX12_master_18 (Or.inr F12_110) rfl rfl (hF.1 40 42 74 rfl) ?_
        refine x_iload_n 2 DX12_master_21 rfl rfl ?_
        refine x_iald (v := (ι 74 i)) i (nI_cl1 (by omega)) DX12_master_22 rfl (gIn.fx hF (c := 74) (n := 30) rfl (gIn_nI (by omega) (by omega))) rfl ?_
        refine x_iconst (-1) DX12_master_23 (by decide) ?_
        refine x_icmp_ne 33 DX12_master_24 (by decide) (fun c_24 => ?_) (fun c_24 => ?_)
        · refine x_iinc ((nI i) + 1) (lv' := [some (vR 40), some (vI b0), some (vI ((nI i) + 1))]) DX12_master_33 rfl rfl (nlt rfl) rfl ?_
          refine x_goto 5 DX12_master_36 (by decide) ?_
          refine x_lv (lv' := [some (vR 40), some (vI b0), some (vI (nI (i + 1)))]) (lvS (lvS (lvI (nI_1 i) rfl))) ?_
          exact ihn (i + 1) _ (by omega) (by rw [if_pos (by grind), if_neg (by assumption)] at he; exact he)
        · refine x_aload_n 0 DX12_master_27 rfl rfl ?_
          refine x_iload_n 2 DX12_master_28 rfl rfl ?_
          refine x_Ve (ci := 12) (av := [vI (nI i)]) (rest := []) (st' := [vI (lnN (ι 74) (ι 75) (ι 76) np (ι 40 2) 31 i)]) 0 0 DX12_master_29 L12_241 rfl rfl rfl rfl rfl ⟨nle rfl, nle rfl, nle rfl⟩ ⟨rfl, nle rfl⟩ ⟨rfl, nle rfl⟩ (m_lineOf K ι ρ Λ hF np hP hp hPar 31 i (by omega) (by have := afN_le (ι 75) np i; omega)) rfl ?_
          refine x_istore_n 1 (lv' := [some (vR 40), some (vI (lnN (ι 74) (ι 75) (ι 76) np (ι 40 2) 31 i)), some (vI (nI i))]) DX12_master_32 rfl ⟨nlt rfl, nlt rfl⟩ rfl ?_
          refine x_iinc ((nI i) + 1) (lv' := [some (vR 40), some (vI (lnN (ι 74) (ι 75) (ι 76) np (ι 40 2) 31 i)), some (vI ((nI i) + 1))]) DX12_master_33 rfl rfl (nlt rfl) rfl ?_
          refine x_goto 5 DX12_master_36 (by decide) ?_
          refine x_lv (lv' := [some (vR 40), some (vI (lnN (ι 74) (ι 75) (ι 76) np (ι 40 2) 31 i)), some (vI (nI (i + 1)))]) (lvS (lvS (lvI (nI_1 i) rfl))) ?_
          exact ihn (i + 1) _ (by omega) (by rw [if_pos (by grind), if_pos (by assumption)] at he; exact he)
  refine x_lv (lv' := [some (vR 40), some (vI (-9)), some (vI (nI 0))]) (lvS (lvS (lvI nI_0.symm rfl))) ?_
  exact loop np 0 (-9) (by omega) rfl
