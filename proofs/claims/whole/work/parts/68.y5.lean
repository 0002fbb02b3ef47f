/-! the model, XIII: the line -/
theorem m_lineS (K : gK) (ι : gIm) (ρ : gRm) (Λ : gLm) (hF : gFix ρ Λ) (np : Nat) (hP : ι 40 9 = nI np) (hp : np ≤ 30) (hPar : ∀ c q, c < np → q < np → ι 74 c = nI q → bKey (ι 75) q < bKey (ι 75) c) (m : Nat) (ihm : ∀ q, q < np → afN (ι 75) np q < m → gCe K (m + 3) 0 0 jX12_lineOf [vR 40, vI (nI q)] ι ρ Λ (some (vI (lnN (ι 74) (ι 75) (ι 76) np (ι 40 2) m q))) ι ρ Λ) (q : Nat) (hq : q < np) (haf : afN (ι 75) np q < m + 1) : gCe K (m + 1 + 3) 0 0 jX12_lineOf [vR 40, vI (nI q)] ι ρ Λ (some (vI (lnN (ι 74) (ι 75) (ι 76) np (ι 40 2) (m + 1) q))) ι ρ Λ := by
  refine gC_of (by decide) (nle rfl) ?_
  refine x_aload_n 0 DX12_lineOf_0 rfl rfl ?_
  refine x_getr 44 (some 76) DX12_lineOf_1 (Or.inr F12_116) rfl rfl (hF.1 40 44 76 rfl) ?_
  refine x_iload_n 1 DX12_lineOf_4 rfl rfl ?_
  refine x_zald (v := (ι 76 q)) q (nI_cl1 (by omega)) DX12_lineOf_5 rfl (gIn.fx hF (c := 76) (n := 30) rfl (gIn_nI (by omega) (by omega))) rfl ?_
  refine x_if_eq 27 DX12_lineOf_6 (by decide) (fun c_6 => ?_) (fun c_6 => ?_)
  · refine x_bipush (-9) DX12_lineOf_27 (by decide) ?_
    refine x_istore_n 2 (lv' := [some (vR 40), some (vI (nI q)), some (vI (-9)), none]) DX12_lineOf_29 rfl ⟨nlt rfl, nlt rfl⟩ rfl ?_
    refine x_aload_n 0 DX12_lineOf_30 rfl rfl ?_
    refine x_iload_n 1 DX12_lineOf_31 rfl rfl ?_
    refine x_iconst (-1) DX12_lineOf_32 (by decide) ?_
    refine x_Ve (ci := 12) (av := [vI (nI q), vI (-1)]) (rest := []) (st' := [vI (sChild (ι 74) (ι 75) np (nI q) (-1))]) 0 0 DX12_lineOf_33 L12_238 rfl rfl rfl rfl rfl ⟨by omega, nle rfl, nle rfl⟩ ⟨rfl, nle rfl⟩ ⟨rfl, nle rfl⟩ (m_child K (nI q) (-1) ι ρ Λ hF np hP hp (Or.inl (by decide))) rfl ?_
    refine x_istore_n 3 (lv' := [some (vR 40), some (vI (nI q)), some (vI (-9)), some (vI (sChild (ι 74) (ι 75) np (nI q) (-1)))]) DX12_lineOf_36 rfl ⟨nlt rfl, nlt rfl⟩ rfl ?_
    have loop : ∀ (k : Nat) (nx b0 : Int32), (b0 < 0 → nx < 0 ∨ ∃ e, e < np ∧ nx = nI e ∧ bKey (ι 75) q < bKey (ι 75) e ∧ afN (ι 75) np e < k) → lwN (ι 74) (ι 75) np (fun x => lnN (ι 74) (ι 75) (ι 76) np (ι 40 2) m x.toNatClampNeg) (nI q) k nx b0 = lnN (ι 74) (ι 75) (ι 76) np (ι 40 2) (m + 1) q → gX K none (m + 1 + 3) 0 0 jX12_lineOf 37 [some (vR 40), some (vI (nI q)), some (vI b0), some (vI nx)] [] 0 0 ι ρ Λ (fun r2 a b c => r2 = some (vI (lnN (ι 74) (ι 75) (ι 76) np (ι 40 2) (m + 1) q)) ∧ a = ι ∧ b = ρ ∧ c = Λ) := by
      intro k
      induction k with
      | zero =>
        intro nx b0 hi he
        refine x_iload_n 3 DX12_lineOf_37 rfl rfl ?_
        refine x_if_lt 61 DX12_lineOf_38 (by decide) (fun c_38 => ?_) (fun c_38 => ?_)
        · refine x_iload_n 2 DX12_lineOf_61 rfl rfl ?_
          exact x_ireturn DX12_lineOf_62 rfl ⟨by rw [← he]; rfl, rfl, rfl, rfl⟩
        · refine x_iload_n 2 DX12_lineOf_41 rfl rfl ?_
          refine x_if_ge 61 DX12_lineOf_42 (by decide) (fun c_42 => ?_) (fun c_42 => False.elim (by rcases hi (by grind) with h9 | ⟨e, -, -, -, h9⟩; exact c_38 h9; omega))
          refine x_iload_n 2 DX12_lineOf_61 rfl rfl ?_
          exact x_ireturn DX12_lineOf_62 rfl ⟨by rw [← he]; rfl, rfl, rfl, rfl⟩
      | succ k ihk =>
        intro nx b0 hi he
        rw [lwN] at he
        refine x_iload_n 3 DX12_lineOf_37 rfl rfl ?_
        refine x_if_lt 61 DX12_lineOf_38 (by decide) (fun c_38 => ?_) (fun c_38 => ?_)
        · refine x_iload_n 2 DX12_lineOf_61 rfl rfl ?_
          exact x_ireturn DX12_lineOf_62 rfl ⟨by rw [if_neg (by grind)] at he; rw [← he], rfl, rfl, rfl⟩
        · refine x_iload_n 2 DX12_lineOf_41 rfl rfl ?_
          refine x_if_ge 61 DX12_lineOf_42 (by decide) (fun c_42 => ?_) (fun c_42 => ?_)
          · refine x_iload_n 2 DX12_lineOf_61 rfl rfl ?_
            exact x_ireturn DX12_lineOf_62 rfl ⟨by rw [if_neg (by grind)] at he; rw [← he], rfl, rfl, rfl⟩
          · refine x_aload_n 0 DX12_lineOf_45 rfl rfl ?_
            refine x_iload_n 3 DX12_lineOf_46 rfl rfl ?_
            have hb9 : b0 < 0 := by grind
            rcases hi hb9 with h9 | ⟨e, he1, he2, he3, he4⟩
            · exact absurd h9 c_38
            have hafe := afN_lt (np := np) he1 he3
            subst he2
            have g := ihm e he1 (by omega)
            refine x_Ve (ci := 12) (av := [vI (nI e)]) (rest := []) (st' := [vI (lnN (ι 74) (ι 75) (ι 76) np (ι 40 2) m e)]) 0 0 DX12_lineOf_47 L12_241 rfl rfl rfl rfl rfl ⟨by omega, nle rfl, nle rfl⟩ ⟨rfl, nle rfl⟩ ⟨rfl, nle rfl⟩ (g) rfl ?_
            refine x_istore_n 2 (lv' := [some (vR 40), some (vI (nI q)), some (vI (lnN (ι 74) (ι 75) (ι 76) np (ι 40 2) m e)), some (vI (nI e))]) DX12_lineOf_50 rfl ⟨nlt rfl, nlt rfl⟩ rfl ?_
            refine x_aload_n 0 DX12_lineOf_51 rfl rfl ?_
            refine x_iload_n 1 DX12_lineOf_52 rfl rfl ?_
            refine x_iload_n 3 DX12_lineOf_53 rfl rfl ?_
            refine x_Ve (ci := 12) (av := [vI (nI q), vI (nI e)]) (rest := []) (st' := [vI (sChild (ι 74) (ι 75) np (nI q) (nI e))]) 0 0 DX12_lineOf_54 L12_238 rfl rfl rfl rfl rfl ⟨by omega, nle rfl, nle rfl⟩ ⟨rfl, nle rfl⟩ ⟨rfl, nle rfl⟩ (m_child K (nI q) (nI e) ι ρ Λ hF np hP hp (Or.inr (gIn_nI (by omega) (by omega)))) rfl ?_
            refine x_istore_n 3 (lv' := [some (vR 40), some (vI (nI q)), some (vI (lnN (ι 74) (ι 75) (ι 76) np (ι 40 2) m e)), some (vI (sChild (ι 74) (ι 75) np (nI q) (nI e)))]) DX12_lineOf_57 rfl ⟨nlt rfl, nlt rfl⟩ rfl ?_
            refine x_goto 37 DX12_lineOf_58 (by decide) ?_
            refine ihk _ _ (fun _ => ?_) (by rw [if_pos ⟨Int32.not_lt.mp c_38, hb9⟩] at he; rw [nI_cl1 (by omega)] at he; exact he)
            rcases sChild_is (par := ι 74) (born := ι 75) (np := np) (p := nI q) (q := nI e) with h7 | ⟨d, hd1, hd2, hd3, hd4⟩
            · exact Or.inl (by rw [h7]; decide)
            · have hke := (sBef_key (born := ι 75) (by omega) (by omega)).mp (hd4.resolve_left (nI_pos (by omega)))
              exact Or.inr ⟨d, hd1, hd2, hPar d q hd1 hq hd3, by have := afN_lt (np := np) hd1 hke; omega⟩
    have hlo : ((-9 : Int32) < 0 → (sChild (ι 74) (ι 75) np (nI q) (-1)) < 0 ∨ ∃ e, e < np ∧ (sChild (ι 74) (ι 75) np (nI q) (-1)) = nI e ∧ bKey (ι 75) q < bKey (ι 75) e ∧ afN (ι 75) np e < (np + 1)) := by
      intro _
      rcases sChild_is (par := ι 74) (born := ι 75) (np := np) (p := nI q) (q := -1) with h7 | ⟨d, hd1, hd2, hd3, hd4⟩
      · exact Or.inl (by rw [h7]; decide)
      · exact Or.inr ⟨d, hd1, hd2, hPar d q hd1 hq hd3, by have := afN_le (ι 75) np d; omega⟩
    exact loop (np + 1) _ _ hlo (by rw [lnN, if_neg (by grind)])
  · refine x_aload_n 0 DX12_lineOf_9 rfl rfl ?_
    refine x_geti (v := (ι 40 2)) 2 DX12_lineOf_10 (Or.inl F12_162) rfl rfl rfl ?_
    refine x_aload_n 0 DX12_lineOf_13 rfl rfl ?_
    refine x_getr 43 (some 75) DX12_lineOf_14 (Or.inr F12_113) rfl rfl (hF.1 40 43 75 rfl) ?_
    refine x_iload_n 1 DX12_lineOf_17 rfl rfl ?_
    refine x_iald (v := (ι 75 q)) q (nI_cl1 (by omega)) DX12_lineOf_18 rfl (gIn.fx hF (c := 75) (n := 30) rfl (gIn_nI (by omega) (by omega))) rfl ?_
    refine x_isub DX12_lineOf_19 ?_
    refine x_bipush 20 DX12_lineOf_20 (by decide) ?_
    refine x_icmp_lt 27 DX12_lineOf_22 (by decide) (fun c_22 => ?_) (fun c_22 => ?_)
    · refine x_bipush (-9) DX12_lineOf_27 (by decide) ?_
      refine x_istore_n 2 (lv' := [some (vR 40), some (vI (nI q)), some (vI (-9)), none]) DX12_lineOf_29 rfl ⟨nlt rfl, nlt rfl⟩ rfl ?_
      refine x_aload_n 0 DX12_lineOf_30 rfl rfl ?_
      refine x_iload_n 1 DX12_lineOf_31 rfl rfl ?_
      refine x_iconst (-1) DX12_lineOf_32 (by decide) ?_
      refine x_Ve (ci := 12) (av := [vI (nI q), vI (-1)]) (rest := []) (st' := [vI (sChild (ι 74) (ι 75) np (nI q) (-1))]) 0 0 DX12_lineOf_33 L12_238 rfl rfl rfl rfl rfl ⟨by omega, nle rfl, nle rfl⟩ ⟨rfl, nle rfl⟩ ⟨rfl, nle rfl⟩ (m_child K (nI q) (-1) ι ρ Λ hF np hP hp (Or.inl (by decide))) rfl ?_
      refine x_istore_n 3 (lv' := [some (vR 40), some (vI (nI q)), some (vI (-9)), some (vI (sChild (ι 74) (ι 75) np (nI q) (-1)))]) DX12_lineOf_36 rfl ⟨nlt rfl, nlt rfl⟩ rfl ?_
      have loop : ∀ (k : Nat) (nx b0 : Int32), (b0 < 0 → nx < 0 ∨ ∃ e, e < np ∧ nx = nI e ∧ bKey (ι 75) q < bKey (ι 75) e ∧ afN (ι 75) np e < k) → lwN (ι 74) (ι 75) np (fun x => lnN (ι 74) (ι 75) (ι 76) np (ι 40 2) m x.toNatClampNeg) (nI q) k nx b0 = lnN (ι 74) (ι 75) (ι 76) np (ι 40 2) (m + 1) q → gX K none (m + 1 + 3) 0 0 jX12_lineOf 37 [some (vR 40), some (vI (nI q)), some (vI b0), some (vI nx)] [] 0 0 ι ρ Λ (fun r2 a b c => r2 = some (vI (lnN (ι 74) (ι 75) (ι 76) np (ι 40 2) (m + 1) q)) ∧ a = ι ∧ b = ρ ∧ c = Λ) := by
        intro k
        induction k with
        | zero =>
          intro nx b0 hi he
          refine x_iload_n 3 DX12_lineOf_37 rfl rfl ?_
          refine x_if_lt 61 DX12_lineOf_38 (by decide) (fun c_38 => ?_) (fun c_38 => ?_)
          · refine x_iload_n 2 DX12_lineOf_61 rfl rfl ?_
            exact x_ireturn DX12_lineOf_62 rfl ⟨by rw [← he]; rfl, rfl, rfl, rfl⟩
          · refine x_iload_n 2 DX12_lineOf_41 rfl rfl ?_
            refine x_if_ge 61 DX12_lineOf_42 (by decide) (fun c_42 => ?_) (fun c_42 => False.elim (by rcases hi (by grind) with h9 | ⟨e, -, -, -, h9⟩; exact c_38 h9; omega))
            refine x_iload_n 2 DX12_lineOf_61 rfl rfl ?_
            exact x_ireturn DX12_lineOf_62 rfl ⟨by rw [← he]; rfl, rfl, rfl, rfl⟩
        | succ k ihk =>
          intro nx b0 hi he
          rw [lwN] at he
          refine x_iload_n 3 DX12_lineOf_37 rfl rfl ?_
          refine x_if_lt 61 DX12_lineOf_38 (by decide) (fun c_38 => ?_) (fun c_38 => ?_)
          · refine x_iload_n 2 DX12_lineOf_61 rfl rfl ?_
            exact x_ireturn DX12_lineOf_62 rfl ⟨by rw [if_neg (by grind)] at he; rw [← he], rfl, rfl, rfl⟩
          · refine x_iload_n 2 DX12_lineOf_41 rfl rfl ?_
            refine x_if_ge 61 DX12_lineOf_42 (by decide) (fun c_42 => ?_) (fun c_42 => ?_)
            · refine x_iload_n 2 DX12_lineOf_61 rfl rfl ?_
              exact x_ireturn DX12_lineOf_62 rfl ⟨by rw [if_neg (by grind)] at he; rw [← he], rfl, rfl, rfl⟩
            · refine x_aload_n 0 DX12_lineOf_45 rfl rfl ?_
              refine x_iload_n 3 DX12_lineOf_46 rfl rfl ?_
              have hb9 : b0 < 0 := by grind
              rcases hi hb9 with h9 | ⟨e, he1, he2, he3, he4⟩
              · exact absurd h9 c_38
              have hafe := afN_lt (np := np) he1 he3
              subst he2
              have g := ihm e he1 (by omega)
              refine x_Ve (ci := 12) (av := [vI (nI e)]) (rest := []) (st' := [vI (lnN (ι 74) (ι 75) (ι 76) np (ι 40 2) m e)]) 0 0 DX12_lineOf_47 L12_241 rfl rfl rfl rfl rfl ⟨by omega, nle rfl, nle rfl⟩ ⟨rfl, nle rfl⟩ ⟨rfl, nle rfl⟩ (g) rfl ?_
              refine x_istore_n 2 (lv' := [some (vR 40), some (vI (nI q)), some (vI (lnN (ι 74) (ι 75) (ι 76) np (ι 40 2) m e)), some (vI (nI e))]) DX12_lineOf_50 rfl ⟨nlt rfl, nlt rfl⟩ rfl ?_
              refine x_aload_n 0 DX12_lineOf_51 rfl rfl ?_
              refine x_iload_n 1 DX12_lineOf_52 rfl rfl ?_
              refine x_iload_n 3 DX12_lineOf_53 rfl rfl ?_
              refine x_Ve (ci := 12) (av := [vI (nI q), vI (nI e)]) (rest := []) (st' := [vI (sChild (ι 74) (ι 75) np (nI q) (nI e))]) 0 0 DX12_lineOf_54 L12_238 rfl rfl rfl rfl rfl ⟨by omega, nle rfl, nle rfl⟩ ⟨rfl, nle rfl⟩ ⟨rfl, nle rfl⟩ (m_child K (nI q) (nI e) ι ρ Λ hF np hP hp (Or.inr (gIn_nI (by omega) (by omega)))) rfl ?_
              refine x_istore_n 3 (lv' := [some (vR 40), some (vI (nI q)), some (vI (lnN (ι 74) (ι 75) (ι 76) np (ι 40 2) m e)), some (vI (sChild (ι 74) (ι 75) np (nI q) (nI e)))]) DX12_lineOf_57 rfl ⟨nlt rfl, nlt rfl⟩ rfl ?_
              refine x_goto 37 DX12_lineOf_58 (by decide) ?_
              refine ihk _ _ (fun _ => ?_) (by rw [if_pos ⟨Int32.not_lt.mp c_38, hb9⟩] at he; rw [nI_cl1 (by omega)] at he; exact he)
              rcases sChild_is (par := ι 74) (born := ι 75) (np := np) (p := nI q) (q := nI e) with h7 | ⟨d, hd1, hd2, hd3, hd4⟩
              · exact Or.inl (by rw [h7]; decide)
              · have hke := (sBef_key (born := ι 75) (by omega) (by omega)).mp (hd4.resolve_left (nI_pos (by omega)))
                exact Or.inr ⟨d, hd1, hd2, hPar d q hd1 hq hd3, by have := afN_lt (np := np) hd1 hke; omega⟩
      have hlo : ((-9 : Int32) < 0 → (sChild (ι 74) (ι 75) np (nI q) (-1)) < 0 ∨ ∃ e, e < np ∧ (sChild (ι 74) (ι 75) np (nI q) (-1)) = nI e ∧ bKey (ι 75) q < bKey (ι 75) e ∧ afN (ι 75) np e < (np + 1)) := by
        intro _
        rcases sChild_is (par := ι 74) (born := ι 75) (np := np) (p := nI q) (q := -1) with h7 | ⟨d, hd1, hd2, hd3, hd4⟩
        · exact Or.inl (by rw [h7]; decide)
        · exact Or.inr ⟨d, hd1, hd2, hPar d q hd1 hq hd3, by have := afN_le (ι 75) np d; omega⟩
      exact loop (np + 1) _ _ hlo (by rw [lnN, if_neg (by grind)])
    · refine x_iload_n 1 DX12_lineOf_25 rfl rfl ?_
      exact x_ireturn DX12_lineOf_26 rfl ⟨by rw [lnN, if_pos ⟨by assumption, Int32.not_lt.mp (by assumption)⟩], rfl, rfl, rfl⟩
theorem m_lineOf (K : gK) (ι : gIm) (ρ : gRm) (Λ : gLm) (hF : gFix ρ Λ) (np : Nat) (hP : ι 40 9 = nI np) (hp : np ≤ 30) (hPar : ∀ c q, c < np → q < np → ι 74 c = nI q → bKey (ι 75) q < bKey (ι 75) c) : ∀ (m q : Nat), q < np → afN (ι 75) np q < m → gCe K (m + 3) 0 0 jX12_lineOf [vR 40, vI (nI q)] ι ρ Λ (some (vI (lnN (ι 74) (ι 75) (ι 76) np (ι 40 2) m q))) ι ρ Λ
  | 0, q, _, h => absurd h (by omega)
  | m + 1, q, h1, h2 => m_lineS K ι ρ Λ hF np hP hp hPar m (m_lineOf K ι ρ Λ hF np hP hp hPar m) q h1 h2
