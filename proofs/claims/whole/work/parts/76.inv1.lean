/-! the two memories, side by side -/
/-- a call that is refused -/
def iR (ι : gIm) : Prop := ∀ k, ι 1 k = ι 41 k
def dR (c k : Nat) : Prop := c = 1 ∨ c = 41
theorem iR_fr {ι z : gIm} (h : iR ι) (e : ∀ c k, dR c k → z c k = ι c k) : iR z := fun k => by
  rw [e 1 k (Or.inl rfl), e 41 k (Or.inr rfl)]; exact h k
theorem iR_rf {ι : gIm} (h : iR ι) (c : Int32) : iR (rf 41 (rf 1 ι c) c) := by
  intro k
  unfold rf
  simp only [up2_get]
  have h1 := h k
  have h2 := h (-c).toNatClampNeg
  grind
/-- the year -/
def iS (ι : gIm) (yr wk : Nat) : Prop := ι 2 0 = nI yr ∧ ι 40 2 = nI yr ∧ yr ≤ 60 ∧ ι 2 1 = nI wk ∧ ι 40 3 = nI wk ∧ wk ≤ 52 ∧ (∀ k, k < 52 → ι 3 k = ι 42 k ∧ -1 ≤ ι 3 k ∧ ι 3 k ≤ 9)
def dS (c k : Nat) : Prop := (c = 2 ∧ k < 2) ∨ (c = 3 ∧ k < 52) ∨ (c = 42 ∧ k < 52) ∨ (c = 40 ∧ (k = 2 ∨ k = 3))
theorem iS_fr {ι z : gIm} {yr wk : Nat} (h : iS ι yr wk) (e : ∀ c k, dS c k → z c k = ι c k) : iS z yr wk := by
  obtain ⟨h1, h2, h3, h4, h5, h6, h7⟩ := h
  refine ⟨?_, ?_, h3, ?_, ?_, h6, fun k hk => ?_⟩
  · rw [e _ _ (by unfold dS; omega)]; exact h1
  · rw [e _ _ (by unfold dS; omega)]; exact h2
  · rw [e _ _ (by unfold dS; omega)]; exact h4
  · rw [e _ _ (by unfold dS; omega)]; exact h5
  · rw [e 3 k (by unfold dS; omega), e 42 k (by unfold dS; omega)]; exact h7 k hk
/-- a house -/
def iH1 (ι : gIm) (i : Nat) : Prop := (ι (100 + i) 0 = nI i ∧ ι (100 + i) 1 = ι 43 i ∧ ι (100 + i) 2 = ι 44 i ∧ ι (100 + i) 3 = ι 45 i ∧ ι (100 + i) 4 = ι 50 i ∧ ι (100 + i) 7 = ι 48 i ∧ ι (100 + i) 8 = ι 49 i) ∧
    (ι 51 i = 0 → ι (100 + i) 5 = 0 ∧ ι (100 + i) 6 = 0 ∧ ι (100 + i) 7 = 0) ∧ (¬ ι 51 i = 0 → ι (100 + i) 5 = ι 46 i ∧ ι (100 + i) 6 = ι 47 i) ∧
    (1 ≤ ι (100 + i) 2 ∧ ι (100 + i) 2 ≤ 9) ∧ (1 ≤ ι (100 + i) 3 ∧ ι (100 + i) 3 ≤ 9) ∧ (ι (100 + i) 4 = 0 ∨ ι (100 + i) 4 = 1) ∧ (0 ≤ ι (100 + i) 5 ∧ ι (100 + i) 5 ≤ 2000) ∧ 0 ≤ ι (100 + i) 7 ∧ ι (100 + i) 7 ≤ 200
def dH1 (i c k : Nat) : Prop := (c = 100 + i ∧ k < 9) ∨ (43 ≤ c ∧ c ≤ 51 ∧ k = i)
theorem iH1_fr {ι z : gIm} {i : Nat} (h : iH1 ι i) (e : ∀ c k, dH1 i c k → z c k = ι c k) : iH1 z i := by
  unfold iH1 at *
  rw [e (100 + i) 0 (by unfold dH1; omega), e (100 + i) 1 (by unfold dH1; omega), e (100 + i) 2 (by unfold dH1; omega), e (100 + i) 3 (by unfold dH1; omega), e (100 + i) 4 (by unfold dH1; omega), e (100 + i) 5 (by unfold dH1; omega), e (100 + i) 6 (by unfold dH1; omega), e (100 + i) 7 (by unfold dH1; omega), e (100 + i) 8 (by unfold dH1; omega),
      e 43 i (by unfold dH1; omega), e 44 i (by unfold dH1; omega), e 45 i (by unfold dH1; omega), e 46 i (by unfold dH1; omega), e 47 i (by unfold dH1; omega), e 48 i (by unfold dH1; omega), e 49 i (by unfold dH1; omega), e 50 i (by unfold dH1; omega), e 51 i (by unfold dH1; omega)]
  exact h
def iH (ι : gIm) (ρ : gRm) (nh : Nat) : Prop := ι 4 2 = nI nh ∧ ι 40 4 = nI nh ∧ nh ≤ 24 ∧ ι 4 3 = ι 40 6 ∧ (∀ i, i < nh → ρ 5 i = some (100 + i) ∧ iH1 ι i) ∧ ∀ i, nh ≤ i → i < 24 → ι 48 i = 0 ∧ ι 49 i = 0 ∧ ι 51 i = 0
def dH (nh c k : Nat) : Prop := (c = 4 ∧ (k = 2 ∨ k = 3)) ∨ (c = 40 ∧ (k = 4 ∨ k = 6)) ∨ (100 ≤ c ∧ c < 100 + nh ∧ k < 9) ∨ (43 ≤ c ∧ c ≤ 51 ∧ k < 24)
theorem iH_fr {ι z : gIm} {ρ ρ' : gRm} {nh : Nat} (h : iH ι ρ nh) (e : ∀ c k, dH nh c k → z c k = ι c k) (e2 : ∀ i, i < nh → ρ' 5 i = ρ 5 i) : iH z ρ' nh := by
  obtain ⟨h1, h2, h3, h4, h5, h6⟩ := h
  refine ⟨?_, ?_, h3, ?_, fun i hi => ⟨?_, ?_⟩, fun i g1 g2 => ?_⟩
  · rw [e _ _ (by unfold dH; omega)]; exact h1
  · rw [e _ _ (by unfold dH; omega)]; exact h2
  · rw [e _ _ (by unfold dH; omega), e _ _ (by unfold dH; omega)]; exact h4
  · rw [e2 i (by omega)]; exact (h5 i hi).1
  · exact iH1_fr (h5 i hi).2 (fun c k d => e c k (by unfold dH1 at d; unfold dH; omega))
  · rw [e _ _ (by unfold dH; omega), e _ _ (by unfold dH; omega), e _ _ (by unfold dH; omega)]; exact h6 i g1 g2
/-- a rope: what may change -/
def iN1 (ι : gIm) (ρ : gRm) (Λ : gLm) (r : Nat) : Prop := (ρ 8 r = some (200 + r) ∧ ρ (200 + r) 4 = some (400 + r) ∧ ρ (200 + r) 5 = some (600 + r)) ∧ (Λ.2 (400 + r) = cn (ι (200 + r) 1) ∧ Λ.2 (600 + r) = cn (ι (200 + r) 1)) ∧
  (ι (200 + r) 0 = nI r ∧ ι (200 + r) 1 = ι 52 r ∧ ι (200 + r) 2 = ι 53 r ∧ ι (200 + r) 3 = ι 54 r ∧ ι (200 + r) 8 = ι 55 r) ∧ (ι 58 r = 0 ↔ ι (200 + r) 6 = 0 ∧ ι (200 + r) 7 = 0)
def dN1 (r c k : Nat) : Prop := (c = 200 + r ∧ k < 9) ∨ (52 ≤ c ∧ c ≤ 58 ∧ c ≠ 56 ∧ c ≠ 57 ∧ k = r)
theorem iN1_fr {ι z : gIm} {ρ ρ' : gRm} {Λ Λ' : gLm} {r : Nat} (h : iN1 ι ρ Λ r) (e : ∀ c k, dN1 r c k → z c k = ι c k) (e2 : ρ' 8 r = ρ 8 r ∧ ρ' (200 + r) = ρ (200 + r)) (e3 : Λ'.2 (400 + r) = Λ.2 (400 + r) ∧ Λ'.2 (600 + r) = Λ.2 (600 + r)) : iN1 z ρ' Λ' r := by
  unfold iN1 at *
  rw [e (200 + r) 0 (by unfold dN1; omega), e (200 + r) 1 (by unfold dN1; omega), e (200 + r) 2 (by unfold dN1; omega), e (200 + r) 3 (by unfold dN1; omega), e (200 + r) 6 (by unfold dN1; omega), e (200 + r) 7 (by unfold dN1; omega), e (200 + r) 8 (by unfold dN1; omega),
      e 52 r (by unfold dN1; omega), e 53 r (by unfold dN1; omega), e 54 r (by unfold dN1; omega), e 55 r (by unfold dN1; omega), e 58 r (by unfold dN1; omega), e2.1, e2.2, e3.1, e3.2]
  exact h
def iN (ι : gIm) (ρ : gRm) (Λ : gLm) (nr : Nat) : Prop := ι 7 1 = nI nr ∧ ι 40 5 = nI nr ∧ nr ≤ 200 ∧ (∀ r, r < nr → iN1 ι ρ Λ r) ∧ ∀ r, nr ≤ r → r < 200 → ι 58 r = 0
def dN (nr c k : Nat) : Prop := (c = 7 ∧ k = 1) ∨ (c = 40 ∧ k = 5) ∨ (200 ≤ c ∧ c < 200 + nr ∧ k < 9) ∨ (52 ≤ c ∧ c ≤ 58 ∧ c ≠ 56 ∧ c ≠ 57 ∧ k < nr) ∨ (c = 58 ∧ k < 200)
theorem iN_fr {ι z : gIm} {ρ ρ' : gRm} {Λ Λ' : gLm} {nr : Nat} (h : iN ι ρ Λ nr) (e : ∀ c k, dN nr c k → z c k = ι c k) (e2 : ∀ r, r < nr → ρ' 8 r = ρ 8 r ∧ ρ' (200 + r) = ρ (200 + r)) (e3 : ∀ r, r < nr → Λ'.2 (400 + r) = Λ.2 (400 + r) ∧ Λ'.2 (600 + r) = Λ.2 (600 + r)) : iN z ρ' Λ' nr := by
  obtain ⟨h1, h2, h3, h4, h5⟩ := h
  refine ⟨?_, ?_, h3, fun r hr => iN1_fr (h4 r hr) (fun c k d => e c k ?_) (e2 r hr) (e3 r hr), fun r g1 g2 => ?_⟩
  · rw [e _ _ (by unfold dN; omega)]; exact h1
  · rw [e _ _ (by unfold dN; omega)]; exact h2
  · unfold dN1 at d; unfold dN; omega
  · rw [e _ _ (by unfold dN; omega)]; exact h5 r g1 g2
/-- a rope: its leaves, for good -/
def lfS (ι : gIm) (r : Nat) : Prop := ι 52 r = 0 ∧ (∀ k, k < 3 → ι (400 + r) k = ι 56 (3 * r + k) ∧ ι (600 + r) k = ι 57 (3 * r + k) ∧ 1 ≤ ι 57 (3 * r + k) ∧ ι 57 (3 * r + k) ≤ 9) ∧ ι 53 r = imin (ι 57 (3 * r)) (imin (ι 57 (3 * r + 1)) (ι 57 (3 * r + 2)))
def lfG (ι : gIm) (r : Nat) : Prop := ∀ i, i < 3 → ∃ q, q < r ∧ ι 56 (3 * r + i) = nI q ∧ ι 52 q + 1 = ι 52 r ∧ ∀ k, k < cn (ι 52 q) → ι (400 + r) (i * cn (ι 52 q) + k) = ι (400 + q) k ∧ ι (600 + r) (i * cn (ι 52 q) + k) = ι (600 + q) k
def lf (ι : gIm) (r : Nat) : Prop := (ι 52 r = 0 ∧ 1 ≤ ι 53 r ∧ ι 53 r ≤ 9 ∧ lfS ι r) ∨ (ι 52 r = 1 ∧ 1 ≤ ι 53 r ∧ ι 53 r ≤ 27 ∧ lfG ι r) ∨ (ι 52 r = 2 ∧ 1 ≤ ι 53 r ∧ ι 53 r ≤ 81 ∧ lfG ι r)
def iL (ι : gIm) (nr : Nat) : Prop := ∀ r, r < nr → lf ι r
def dL (nr c k : Nat) : Prop := ((c = 52 ∨ c = 53) ∧ k < nr) ∨ ((c = 56 ∨ c = 57) ∧ k < 3 * nr) ∨ (400 ≤ c ∧ c < 400 + nr) ∨ (600 ≤ c ∧ c < 600 + nr)
theorem lf_fr {ι z : gIm} {nr r : Nat} (hr : r < nr) (h : lf ι r) (e : ∀ c k, dL nr c k → z c k = ι c k) : lf z r := by
  have e52 : ∀ q, q < nr → z 52 q = ι 52 q := fun q hq => e 52 q (by unfold dL; omega)
  have e53 : z 53 r = ι 53 r := e 53 r (by unfold dL; omega)
  have e56 : ∀ k, k < 3 → z 56 (3 * r + k) = ι 56 (3 * r + k) := fun k hk => e 56 _ (by unfold dL; omega)
  have e57 : ∀ k, k < 3 → z 57 (3 * r + k) = ι 57 (3 * r + k) := fun k hk => e 57 _ (by unfold dL; omega)
  have e4 : ∀ q k, q < nr → z (400 + q) k = ι (400 + q) k := fun q k hq => e (400 + q) k (by unfold dL; omega)
  have e6 : ∀ q k, q < nr → z (600 + q) k = ι (600 + q) k := fun q k hq => e (600 + q) k (by unfold dL; omega)
  have hG : lfG ι r → lfG z r := by
    intro g i hi
    obtain ⟨q, g1, g2, g3, g4⟩ := g i hi
    refine ⟨q, g1, (e56 i hi).trans g2, ?_, ?_⟩
    · rw [e52 q (by omega), e52 r hr]; exact g3
    · rw [e52 q (by omega)]
      intro k hk
      rw [e4 r _ hr, e4 q _ (by omega), e6 r _ hr, e6 q _ (by omega)]
      exact g4 k hk
  unfold lf at *
  rw [e53, e52 r hr]
  rcases h with ⟨h1, h2, h3, h4⟩ | ⟨h1, h2, h3, h4⟩ | ⟨h1, h2, h3, h4⟩
  · refine Or.inl ⟨h1, h2, h3, ?_⟩
    obtain ⟨g1, g2, g3⟩ := h4
    refine ⟨(e52 r hr).trans g1, fun k hk => ?_, ?_⟩
    · rw [e4 r _ hr, e6 r _ hr, e56 k hk, e57 k hk]; exact g2 k hk
    · have q0 := e57 0 (by omega)
      rw [Nat.add_zero] at q0
      rw [e53, q0, e57 1 (by omega), e57 2 (by omega)]; exact g3
  · exact Or.inr (Or.inl ⟨h1, h2, h3, hG h4⟩)
  · exact Or.inr (Or.inr ⟨h1, h2, h3, hG h4⟩)
theorem iL_fr {ι z : gIm} {nr : Nat} (h : iL ι nr) (e : ∀ c k, dL nr c k → z c k = ι c k) : iL z nr := fun r hr => lf_fr hr (h r hr) e
/-- the bridge -/
def iB1 (ι : gIm) (ρ : gRm) (yr wk nr p : Nat) : Prop := (∀ d, ρ 10 p = some d → 200 ≤ d ∧ d < 200 + nr ∧ ι 52 (d - 200) = 2) ∧ (hgi (spo ρ p) = ι 59 p ∧ ι 11 p = ι 60 p ∧ ι 12 p = ι 61 p) ∧ (∃ w, ι 12 p = nI w ∧ w ≤ 18 * (52 * yr + wk)) ∧ ∃ y, y ≤ yr ∧ ι 13 p = nI y ∧ ι 62 p = nI (yr - y)
def dB1 (nr p c k : Nat) : Prop := (((11 ≤ c ∧ c ≤ 13) ∨ (59 ≤ c ∧ c ≤ 62)) ∧ k = p) ∨ (c = 52 ∧ k < nr)
theorem iB1_fr {ι z : gIm} {ρ ρ' : gRm} {yr wk nr p : Nat} (h : iB1 ι ρ yr wk nr p) (e : ∀ c k, dB1 nr p c k → z c k = ι c k) (e2 : ρ' 10 p = ρ 10 p) : iB1 z ρ' yr wk nr p := by
  obtain ⟨h1, h2, h3, h4⟩ := h
  unfold iB1 spo at *
  rw [e 11 p (by unfold dB1; omega), e 12 p (by unfold dB1; omega), e 13 p (by unfold dB1; omega), e 59 p (by unfold dB1; omega), e 60 p (by unfold dB1; omega), e 61 p (by unfold dB1; omega), e 62 p (by unfold dB1; omega), e2]
  refine ⟨fun d hd => ?_, h2, h3, h4⟩
  obtain ⟨g1, g2, g3⟩ := h1 d hd
  refine ⟨g1, g2, ?_⟩
  rw [e 52 _ (by unfold dB1; omega)]; exact g3
def iB (ι : gIm) (ρ : gRm) (yr wk nr : Nat) : Prop := ∀ p, p < 6 → iB1 ι ρ yr wk nr p
def dB (nr c k : Nat) : Prop := (((11 ≤ c ∧ c ≤ 13) ∨ (59 ≤ c ∧ c ≤ 62)) ∧ k < 6) ∨ (c = 52 ∧ k < nr)
theorem iB_fr {ι z : gIm} {ρ ρ' : gRm} {yr wk nr : Nat} (h : iB ι ρ yr wk nr) (e : ∀ c k, dB nr c k → z c k = ι c k) (e2 : ∀ p, p < 6 → ρ' 10 p = ρ 10 p) : iB z ρ' yr wk nr :=
  fun p hp => iB1_fr (h p hp) (fun c k d => e c k (by unfold dB1 at d; unfold dB; omega)) (e2 p hp)
/-- the breaks -/
def bkO (ι : gIm) (i : Nat) : Nat := (ι 63 (3 * i)).toNatClampNeg
def iK1 (ι : gIm) (ρ : gRm) (nr i : Nat) : Prop := ρ 15 i = some (800 + i) ∧ ρ (800 + i) 0 = some (200 + bkO ι i) ∧ bkO ι i < nr ∧ ι 63 (3 * i) = nI (bkO ι i) ∧ ι 52 (bkO ι i) = 2 ∧ ι (800 + i) 1 = ι 63 (3 * i + 1) ∧ ι (800 + i) 2 = ι 63 (3 * i + 2)
def dK1 (nr i c k : Nat) : Prop := (c = 63 ∧ 3 * i ≤ k ∧ k ≤ 3 * i + 2) ∨ (c = 52 ∧ k < nr) ∨ (c = 800 + i)
theorem iK1_fr {ι z : gIm} {ρ ρ' : gRm} {nr i : Nat} (h : iK1 ι ρ nr i) (e : ∀ c k, dK1 nr i c k → z c k = ι c k) (e2 : ρ' 15 i = ρ 15 i ∧ ρ' (800 + i) = ρ (800 + i)) : iK1 z ρ' nr i := by
  have eb : bkO z i = bkO ι i := by unfold bkO; rw [e 63 _ (by unfold dK1; omega)]
  unfold iK1 at *
  rw [eb, e2.1, e2.2, e 63 _ (by unfold dK1; omega), e 63 _ (by unfold dK1; omega), e 63 _ (by unfold dK1; omega), e (800 + i) _ (by unfold dK1; omega), e (800 + i) _ (by unfold dK1; omega), e 52 _ (by unfold dK1; omega)]
  exact h
def iK (ι : gIm) (ρ : gRm) (nr nb : Nat) : Prop := ι 14 1 = nI nb ∧ ι 40 7 = nI nb ∧ nb ≤ 40 ∧ ∀ i, i < nb → iK1 ι ρ nr i
def dK (nr nb c k : Nat) : Prop := (c = 14 ∧ k = 1) ∨ (c = 40 ∧ k = 7) ∨ (c = 63 ∧ k < 3 * nb) ∨ (c = 52 ∧ k < nr) ∨ (800 ≤ c ∧ c < 800 + nb)
theorem iK_fr {ι z : gIm} {ρ ρ' : gRm} {nr nb : Nat} (h : iK ι ρ nr nb) (e : ∀ c k, dK nr nb c k → z c k = ι c k) (e2 : ∀ i, i < nb → ρ' 15 i = ρ 15 i ∧ ρ' (800 + i) = ρ (800 + i)) : iK z ρ' nr nb := by
  obtain ⟨h1, h2, h3, h4⟩ := h
  refine ⟨?_, ?_, h3, fun i hi => iK1_fr (h4 i hi) (fun c k d => e c k (by unfold dK1 at d; unfold dK; omega)) (e2 i hi)⟩
  · rw [e _ _ (by unfold dK; omega)]; exact h1
  · rw [e _ _ (by unfold dK; omega)]; exact h2
/-- the work -/
def pO (ι : gIm) (s : Nat) : Nat := (ι 18 s).toNatClampNeg
def aO (ι : gIm) (s : Nat) : Nat := (ι 21 s).toNatClampNeg
def iW1 (ι : gIm) (s : Nat) : Prop := (ι 17 s = ι 66 s ∧ ι 18 s = ι 67 s ∧ ι 19 s = ι 68 s ∧ ι 20 s = ι 69 s ∧ ι 21 s = ι 70 s) ∧ (ι 17 s = 0 ∨ ι 17 s = 1 ∨ ι 17 s = 2) ∧ (ι 18 s = nI (pO ι s) ∧ pO ι s < 6) ∧ (ι 21 s = nI (aO ι s) ∧ aO ι s < 2 ^ s) ∧ (1 ≤ ι 19 s ∧ ι 19 s ≤ 9) ∧ (1 ≤ ι 20 s ∧ ι 20 s ≤ 60)
def iW (ι : gIm) (ns ch : Nat) : Prop := ι 16 5 = nI ns ∧ ι 40 8 = nI ns ∧ ns ≤ 12 ∧ ι 16 6 = nI ch ∧ ∀ s, s < ns → iW1 ι s
def dW (ns c k : Nat) : Prop := (c = 16 ∧ (k = 5 ∨ k = 6)) ∨ (c = 40 ∧ k = 8) ∨ (((17 ≤ c ∧ c ≤ 21) ∨ (66 ≤ c ∧ c ≤ 70)) ∧ k < ns)
theorem iW1_fr {ι z : gIm} {s ns : Nat} (hs : s < ns) (h : iW1 ι s) (e : ∀ c k, dW ns c k → z c k = ι c k) : iW1 z s := by
  unfold iW1 pO aO at *
  rw [e 17 s (by unfold dW; omega), e 18 s (by unfold dW; omega), e 19 s (by unfold dW; omega), e 20 s (by unfold dW; omega), e 21 s (by unfold dW; omega), e 66 s (by unfold dW; omega), e 67 s (by unfold dW; omega), e 68 s (by unfold dW; omega), e 69 s (by unfold dW; omega), e 70 s (by unfold dW; omega)]
  exact h
theorem iW_fr {ι z : gIm} {ns ch : Nat} (h : iW ι ns ch) (e : ∀ c k, dW ns c k → z c k = ι c k) : iW z ns ch := by
  obtain ⟨h1, h2, h3, h4, h5⟩ := h
  refine ⟨?_, ?_, h3, ?_, fun s hs => iW1_fr hs (h5 s hs) e⟩
  · rw [e _ _ (by unfold dW; omega)]; exact h1
  · rw [e _ _ (by unfold dW; omega)]; exact h2
  · rw [e _ _ (by unfold dW; omega)]; exact h4
/-- the people -/
def iP1 (ι : gIm) (c : Nat) : Prop := (ι 32 c = ι 74 c ∧ ι 33 c = ι 75 c ∧ ι 34 c = ι 76 c) ∧ (ι 34 c = 0 ∨ ι 34 c = 1) ∧ (-60 ≤ ι 33 c ∧ ι 33 c ≤ 60) ∧ ι 35 c = (if ι 32 c = -1 then 0 else ι 33 c + 60) * 30 + nI c ∧ (ι 32 c = -1 ∨ ∃ q, q < c ∧ ι 32 c = nI q ∧ ι 33 q ≤ ι 33 c)
def iP (ι : gIm) (np : Nat) : Prop := ι 31 4 = nI np ∧ ι 40 9 = nI np ∧ np ≤ 30 ∧ (∀ c, c < np → iP1 ι c) ∧ ∀ k, ι 32 k = ι 74 k ∧ ι 33 k = ι 75 k ∧ ι 34 k = ι 76 k
def dP (np c k : Nat) : Prop := (c = 31 ∧ k = 4) ∨ (c = 40 ∧ k = 9) ∨ ((32 ≤ c ∧ c ≤ 35) ∨ (74 ≤ c ∧ c ≤ 76))
theorem iP1_fr {ι z : gIm} {c np : Nat} (hc : c < np) (h : iP1 ι c) (e : ∀ c k, dP np c k → z c k = ι c k) : iP1 z c := by
  unfold iP1 at *
  rw [e 32 c (by unfold dP; omega), e 33 c (by unfold dP; omega), e 34 c (by unfold dP; omega), e 35 c (by unfold dP; omega), e 74 c (by unfold dP; omega), e 75 c (by unfold dP; omega), e 76 c (by unfold dP; omega)]
  obtain ⟨h1, h2, h3, h4, h5⟩ := h
  refine ⟨h1, h2, h3, h4, h5.imp id (fun h => ?_)⟩
  obtain ⟨q, g1, g2, g3⟩ := h
  refine ⟨q, g1, g2, ?_⟩
  rw [e 33 q (by unfold dP; omega)]; exact g3
theorem iP_fr {ι z : gIm} {np : Nat} (h : iP ι np) (e : ∀ c k, dP np c k → z c k = ι c k) : iP z np := by
  obtain ⟨h1, h2, h3, h4, h5⟩ := h
  refine ⟨?_, ?_, h3, fun s hs => iP1_fr hs (h4 s hs) e, fun k => ?_⟩
  · rw [e _ _ (by unfold dP; omega)]; exact h1
  · rw [e _ _ (by unfold dP; omega)]; exact h2
  · rw [e 32 k (by unfold dP; omega), e 33 k (by unfold dP; omega), e 34 k (by unfold dP; omega), e 74 k (by unfold dP; omega), e 75 k (by unfold dP; omega), e 76 k (by unfold dP; omega)]; exact h5 k
/-- free cells -/
def iF (Λ : gLm) (nh nr nb : Nat) : Prop := (∀ i, nh ≤ i → i ≤ 24 → 100 + i ∉ Λ.1) ∧ (∀ r, nr ≤ r → r < 200 → 400 + r ∉ Λ.1 ∧ 600 + r ∉ Λ.1 ∧ 200 + r ∉ Λ.1) ∧ ∀ i, nb ≤ i → i < 40 → 800 + i ∉ Λ.1
