/-! the planner: the row -/
def rwI (ι : gIm) (j : Nat) : Nat := (ι 28 j).toNatClampNeg
def dnI (ι : gIm) (j : Nat) : Nat := (ι 29 j).toNatClampNeg
def opR (ι : gIm) (S : Nat) : Nat := (ι 27 S).toNatClampNeg
def swN (ι : gIm) : Nat → Nat → Int32 → Int32
  | 0, _, l => l
  | f + 1, g, l => if (g ||| 2 ^ rwI ι f) &&& (255 ^^^ opR ι (dnI ι f)) = 0 ∧ ι 24 (g ||| 2 ^ rwI ι f) ≤ ι 22 13 then swN ι f (g ||| 2 ^ rwI ι f) (imin l (ι 30 f + ι 25 (g ||| 2 ^ rwI ι f))) else l
def swI (ι : gIm) (k : Nat) : Int32 := swN ι k (2 ^ rwI ι k) (ι 30 k + ι 25 (2 ^ rwI ι k))
def dwN (ι : gIm) : Nat → Nat → Int32 → Int32
  | 0, _, l => l
  | f + 1, g, l => if (g ||| 2 ^ rwI ι f) &&& (255 ^^^ opR ι (dnI ι f)) = 0 then dwN ι f (g ||| 2 ^ rwI ι f) (imin l (ι 30 f + rgI ι (dnI ι f) (g ||| 2 ^ rwI ι f) (opR ι (dnI ι f) &&& (255 ^^^ (g ||| 2 ^ rwI ι f))))) else l
def d0I (ι : gIm) (k s : Nat) : Nat := if ι 17 s = 2 then opR ι (dnI ι k) &&& (255 ^^^ 2 ^ s) else 0
def dwI (ι : gIm) (k s : Nat) : Int32 := dwN ι k (2 ^ s) (ι 30 k + rgI ι (dnI ι k) (2 ^ s) (d0I ι k s))
def fbN (ι : gIm) (ld tn : Nat) (P A H : Nat → Nat) (k : Nat) : Nat → Nat → Nat
  | 0, a => a
  | s + 1, a => fbN ι ld tn P A H k s (if mayI ι ld tn P A H (dnI ι k) s = true ∧ dwI ι k s = ι 26 0 then s else a)
def xCh1 (n ld tn : Nat) (P A H : Nat → Nat) (k : Nat) (ι : gIm) : gIm :=
  let f := fbN ι ld tn P A H k n 0
  let z := up2 (up2 ι 28 k (nI f)) 29 (k + 1) (nI (dnI ι k ||| 2 ^ f))
  up2 z 30 (k + 1) (swI z k)
def xCh (n ld tn : Nat) (P A H : Nat → Nat) (ι : gIm) : gIm := fo (xCh1 n ld tn P A H) n 0 ι
theorem fbN_lt (ι : gIm) (ld tn : Nat) (P A H : Nat → Nat) (k n : Nat) : ∀ s a, s ≤ n → a < n → fbN ι ld tn P A H k s a < n := by
  intro s
  induction s with
  | zero => intro a _ h; exact h
  | succ s ih =>
    intro a h1 h2
    rw [fbN]
    refine ih _ (by omega) ?_
    split <;> omega
def okR (ι : gIm) (n k : Nat) : Prop := (∀ j, j < k → ι 28 j = nI (rwI ι j) ∧ rwI ι j < n) ∧ (∀ j, j ≤ k → ι 29 j = nI (dnI ι j) ∧ dnI ι j < 2 ^ n) ∧ ∀ S, S < 256 → ι 27 S = nI (opR ι S) ∧ opR ι S < 256
theorem xCh1_ne {n ld tn : Nat} {P A H : Nat → Nat} {k : Nat} {ι : gIm} {c : Nat} (h : c ≠ 28 ∧ c ≠ 29 ∧ c ≠ 30) : xCh1 n ld tn P A H k ι c = ι c := by
  show up2 (up2 (up2 ι 28 _ _) 29 _ _) 30 _ _ c = ι c
  rw [up2_ne _ _ _ h.2.2, up2_ne _ _ _ h.2.1, up2_ne _ _ _ h.1]
theorem okR_2 {n k f : Nat} {ι : gIm} (h : okR ι n k) (hf : f < n) (hn : n ≤ 8) (z : gIm) (hz : z = up2 (up2 ι 28 k (nI f)) 29 (k + 1) (nI (dnI ι k ||| 2 ^ f))) : okR z n (k + 1) := by
  obtain ⟨h1, h2, h3⟩ := h
  have e28 : ∀ j, z 28 j = if j = k then nI f else ι 28 j := by
    intro j; rw [hz, up2_ne _ _ _ (by decide), up2_get]; simp
  have e29 : ∀ j, z 29 j = if j = k + 1 then nI (dnI ι k ||| 2 ^ f) else ι 29 j := by
    intro j; rw [hz, up2_get, up2_ne _ _ _ (show 29 ≠ 28 by decide)]; simp
  have e27 : z 27 = ι 27 := by rw [hz, up2_ne _ _ _ (by decide), up2_ne _ _ _ (by decide)]
  have hd : dnI ι k ||| 2 ^ f < 2 ^ n := Nat.or_lt_two_pow (h2 k (Nat.le_refl _)).2 (Nat.pow_lt_pow_right (by omega) hf)
  have hp : 2 ^ n ≤ 2 ^ 8 := Nat.pow_le_pow_right (by omega) hn
  refine ⟨fun j hj => ?_, fun j hj => ?_, fun S hS => ?_⟩
  · unfold rwI
    rw [e28]
    split
    · rw [nI_cl1 (by omega)]; exact ⟨rfl, hf⟩
    · exact h1 j (by omega)
  · unfold dnI
    rw [e29]
    split
    · have : dnI ι k ||| 2 ^ f < 1000000 := by omega
      rw [nI_cl1 this]; exact ⟨rfl, hd⟩
    · exact h2 j (by omega)
  · unfold opR
    rw [e27]
    exact h3 S hS
