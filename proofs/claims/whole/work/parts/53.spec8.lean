/-! the planner: sums over sets -/
def xSu2 (s : Nat) (mv : Int32) (j : Nat) (ι : gIm) : gIm := up2 (up2 (up2 ι 23 (2 ^ s + j) (ι 23 j ^^^ mv)) 24 (2 ^ s + j) (ι 24 j + ι 20 s)) 25 (2 ^ s + j) (imax (ι 25 j) (ι 19 s))
def mvI (ι : gIm) (P : Nat → Nat) (s : Nat) : Int32 := if ι 17 s = 2 then 0 else nI (2 ^ P s)
def xLd (ι : gIm) (s : Nat) : gIm := up2 (up2 ι 22 10 (ι 22 10 ||| (if ι 17 s = 0 then nI (2 ^ s) else 0))) 22 11 (ι 22 11 ||| (if ι 17 s = 2 then nI (2 ^ s) else 0))
def xSu1 (P : Nat → Nat) (s : Nat) (ι : gIm) : gIm := fo (xSu2 s (mvI ι P s)) (2 ^ s) 0 (xLd ι s)
def xSu (P : Nat → Nat) (n : Nat) (ι : gIm) : gIm := fo (xSu1 P) n 0 (up2 (up2 (up2 ι 22 10 0) 22 11 0) 23 0 (ι 22 12))
theorem xSu2_ne {s : Nat} {mv : Int32} {c : Nat} (h : c ≠ 23 ∧ c ≠ 24 ∧ c ≠ 25) (m j : Nat) (ι : gIm) : fo (xSu2 s mv) m j ι c = ι c := by
  induction m generalizing j ι with
  | zero => rfl
  | succ m ih => rw [fo_s, ih, xSu2, up2_ne _ _ _ h.2.2, up2_ne _ _ _ h.2.1, up2_ne _ _ _ h.1]
theorem xSu1_ne {P : Nat → Nat} {s : Nat} {ι : gIm} {c : Nat} (h : c ≠ 22 ∧ c ≠ 23 ∧ c ≠ 24 ∧ c ≠ 25) : xSu1 P s ι c = ι c := by
  rw [xSu1, xSu2_ne h.2, xLd, up2_ne _ _ _ h.1, up2_ne _ _ _ h.1]
theorem xSu1_22 {P : Nat → Nat} {s : Nat} {ι : gIm} {k : Nat} (h : k ≠ 10 ∧ k ≠ 11) : xSu1 P s ι 22 k = ι 22 k := by
  rw [xSu1, xSu2_ne (by decide), xLd, up2_row, va_up_ne _ _ h.2, up2_row, va_up_ne _ _ h.1]
def okS (n : Nat) (P : Nat → Nat) (r18 : Nat → Int32) (z : gIm) : Prop := z 22 9 = nI n ∧ z 18 = r18
theorem okS_1 {n : Nat} {P : Nat → Nat} {r18 : Nat → Int32} {z : gIm} {s : Nat} (h : okS n P r18 z) : okS n P r18 (xSu1 P s z) := ⟨by rw [xSu1_22 (by decide)]; exact h.1, by rw [xSu1_ne (by decide)]; exact h.2⟩
