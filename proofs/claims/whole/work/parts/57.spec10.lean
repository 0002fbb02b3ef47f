/-! the planner: the whole of it -/
theorem okR_of {ι z : gIm} {n k : Nat} (h : okR ι n k) (h1 : z 28 = ι 28) (h2 : z 29 = ι 29) (h3 : z 27 = ι 27) : okR z n k := by
  unfold okR rwI dnI opR at *
  rw [h1, h2, h3]
  exact h
theorem okR_1 {n ld tn : Nat} {P A H : Nat → Nat} {k : Nat} {ι : gIm} (h : okR ι n k) (hk : k < n) (hn : n ≤ 8) : okR (xCh1 n ld tn P A H k ι) n (k + 1) :=
  okR_of (okR_2 (f := fbN ι ld tn P A H k n 0) h (fbN_lt ι ld tn P A H k n n 0 (Nat.le_refl _) (by omega)) hn _ rfl) (by show up2 _ 30 _ _ 28 = _; rw [up2_ne _ _ _ (by decide)]) (by show up2 _ 30 _ _ 29 = _; rw [up2_ne _ _ _ (by decide)]) (by show up2 _ 30 _ _ 27 = _; rw [up2_ne _ _ _ (by decide)])
theorem okP_1 {n ld tn : Nat} {P A H : Nat → Nat} {k : Nat} {ι : gIm} (h : okP ι n ld tn P A H) : okP (xCh1 n ld tn P A H k ι) n ld tn P A H := okP_of h (xCh1_ne (by decide)) (xCh1_ne (by decide)) (xCh1_ne (by decide)) (xCh1_ne (by decide))
def xSee0 (ι : gIm) (hg hh : Int32) (ns : Nat) : gIm := up2 (up2 (up2 (up2 ι 22 12 hg) 22 13 hh) 22 14 (ι 16 6)) 22 9 (nI ns)
def xPl2 (n ld tn : Nat) (P A H : Nat → Nat) (z : gIm) : gIm := if (1000000 : Int32) ≤ z 26 0 then z else xCh n ld tn P A H z
def xSee (ns ld tn : Nat) (P A H : Nat → Nat) (hg hh : Int32) (ι : gIm) : gIm := if hg = ι 22 12 ∧ hh = ι 22 13 ∧ ι 16 6 = ι 22 14 then ι else xPl2 ns ld tn P A H (xMe ns ld tn P A H (xSu P ns (xSee0 ι hg hh ns)))
def vDays (ι : gIm) : Int32 := if (1000000 : Int32) ≤ ι 26 0 then -9 else ι 26 0
def vStep (ι : gIm) (k : Int32) : Int32 := if (1000000 : Int32) ≤ ι 26 0 ∨ k < 0 ∨ ι 22 9 ≤ k ∨ 8 ≤ k then -9 else ι 28 k.toNatClampNeg
def cPlan (ns : Int32) : Int32 := if ns ≤ 8 then 0 else -6
theorem xMeN_ne {n ld tn : Nat} {P A H : Nat → Nat} {c : Nat} (h : c ≠ 26) (h2 : c ≠ 27) (k : Nat) (ι : gIm) : xMeN n ld tn P A H k ι c = ι c := by
  induction k generalizing ι with
  | zero => rfl
  | succ k ih => rw [xMeN, ih, xMe1_ne h h2]
theorem xMe_ne {n ld tn : Nat} {P A H : Nat → Nat} {ι : gIm} {c : Nat} (h : c ≠ 26) (h2 : c ≠ 27) : xMe n ld tn P A H ι c = ι c := by rw [xMe, xMeN_ne h h2, up2_ne _ _ _ h]
