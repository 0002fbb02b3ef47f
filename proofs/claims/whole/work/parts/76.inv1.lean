/-! the two memories, side by side -/
/-- a call that is refused -/
def iR (ι : gIm) : Prop := ∀ k, ι 1 k = ι 41 k
def dR (c k : Nat) : Prop := c = 1 ∨ c = 41
theorem iR_fr {ι z : gIm} (h : iR ι) (e : ∀ c k, dR c k → z c k = ι c k) : iR z := fun k => by
  rw [e 1 k (Or.inl rfl), e 41 k (Or.inr rfl)]; exact h k
theorem iR_rf {ι : gIm} (h : iR ι) (c : Int32) : iR (rf 41 (rf 1 ι c) c) := by
  intro k
  unfold rf
  simp only [up2_get]
  have h1 := h k
  have h2 := h (-c).toNatClampNeg
  grind
/-- the year -/
def iS (ι : gIm) (yr wk : Nat) : Prop := ι 2 0 = nI yr ∧ ι 40 2 = nI yr ∧ yr ≤ 60 ∧ ι 2 1 = nI wk ∧ ι 40 3 = nI wk ∧ wk ≤ 52 ∧ (∀ k, ι 3 k = ι 42 k) ∧ ∀ k, k < 52 → -1 ≤ ι 3 k ∧ ι 3 k ≤ 9
def dS (c k : Nat) : Prop := (c = 2 ∧ k < 2) ∨ c = 3 ∨ c = 42 ∨ (c = 40 ∧ (k = 2 ∨ k = 3))
theorem iS_fr {ι z : gIm} {yr wk : Nat} (h : iS ι yr wk) (e : ∀ c k, dS c k → z c k = ι c k) : iS z yr wk := by
  obtain ⟨h1, h2, h3, h4, h5, h6, h7, h8⟩ := h
  refine ⟨?_, ?_, h3, ?_, ?_, h6, fun k => ?_, fun k hk => ?_⟩
  · rw [e _ _ (by unfold dS; omega)]; exact h1
  · rw [e _ _ (by unfold dS; omega)]; exact h2
  · rw [e _ _ (by unfold dS; omega)]; exact h4
  · rw [e _ _ (by unfold dS; omega)]; exact h5
  · rw [e _ _ (by unfold dS; omega), e _ _ (by unfold dS; omega)]; exact h7 k
  · rw [e _ _ (by unfold dS; omega)]; exact h8 k hk
/-- the houses -/
def iH (ι : gIm) (ρ : gRm) (nh : Nat) : Prop := ι 4 2 = nI nh ∧ ι 40 4 = nI nh ∧ nh ≤ 24 ∧ ι 4 3 = ι 40 6 ∧ (∀ i, i < nh → ρ 5 i = some (100 + i)) ∧
  ∀ i, i < nh → (hr ι 0 i = nI i ∧ hr ι 1 i = ι 43 i ∧ hr ι 2 i = ι 44 i ∧ hr ι 3 i = ι 45 i ∧ hr ι 4 i = ι 50 i ∧ hr ι 7 i = ι 48 i ∧ hr ι 8 i = ι 49 i) ∧
    (ι 51 i = 0 → hr ι 5 i = 0 ∧ hr ι 6 i = 0 ∧ hr ι 7 i = 0) ∧ (¬ ι 51 i = 0 → hr ι 5 i = ι 46 i ∧ hr ι 6 i = ι 47 i) ∧
    (1 ≤ hr ι 2 i ∧ hr ι 2 i ≤ 9) ∧ (1 ≤ hr ι 3 i ∧ hr ι 3 i ≤ 9) ∧ (hr ι 4 i = 0 ∨ hr ι 4 i = 1)
def dH (c k : Nat) : Prop := (c = 4 ∧ (k = 2 ∨ k = 3)) ∨ (c = 40 ∧ (k = 4 ∨ k = 6)) ∨ (100 ≤ c ∧ c < 124 ∧ k < 9) ∨ (43 ≤ c ∧ c ≤ 51)
theorem iH_fr {ι z : gIm} {ρ ρ' : gRm} {nh : Nat} (h : iH ι ρ nh) (e : ∀ c k, dH c k → z c k = ι c k) (e2 : ∀ i, i < 24 → ρ' 5 i = ρ 5 i) : iH z ρ' nh := by
  obtain ⟨h1, h2, h3, h4, h5, h6⟩ := h
  refine ⟨?_, ?_, h3, ?_, fun i hi => ?_, fun i hi => ?_⟩
  · rw [e _ _ (by unfold dH; omega)]; exact h1
  · rw [e _ _ (by unfold dH; omega)]; exact h2
  · rw [e _ _ (by unfold dH; omega), e _ _ (by unfold dH; omega)]; exact h4
  · rw [e2 i (by omega)]; exact h5 i hi
  · have g := h6 i hi
    unfold hr at *
    rw [e (100 + i) 0 (by unfold dH; omega), e (100 + i) 1 (by unfold dH; omega), e (100 + i) 2 (by unfold dH; omega), e (100 + i) 3 (by unfold dH; omega), e (100 + i) 4 (by unfold dH; omega), e (100 + i) 5 (by unfold dH; omega), e (100 + i) 6 (by unfold dH; omega), e (100 + i) 7 (by unfold dH; omega), e (100 + i) 8 (by unfold dH; omega),
      e 43 i (by unfold dH; omega), e 44 i (by unfold dH; omega), e 45 i (by unfold dH; omega), e 46 i (by unfold dH; omega), e 47 i (by unfold dH; omega), e 48 i (by unfold dH; omega), e 49 i (by unfold dH; omega), e 50 i (by unfold dH; omega), e 51 i (by unfold dH; omega)]
    exact g
