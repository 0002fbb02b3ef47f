/-! the model: plans -/
def rwM (ι : gIm) (j : Nat) : Nat := (ι 71 j).toNatClampNeg
def flf (x : Int32) : Int32 := (((x &&& 1) + ((x >>> ((1 : Int32) &&& 31)) &&& 1)) + ((x >>> ((2 : Int32) &&& 31)) &&& 1)) + ((x >>> ((3 : Int32) &&& 31)) &&& 1)
theorem fl_eq : ∀ k, k < 64 → flf (nI k) = nI (pc (k &&& 15)) := by decide +kernel
def tg1 (ι : gIm) (s j : Nat) (t : Int32) : Int32 := if ¬ t = 0 ∧ (ι 70 (rwM ι j) >>> (nI s &&& 31)) &&& 1 = 0 then 1 else 0
def dyN (ι : gIm) (hh : Int32) (k : Nat) : Nat → Int32 → Int32 → Int32 → Int32
  | 0, _, _, d => d
  | f + 1, sm, lg, d => if ¬ fo (tg1 ι (rwM ι f)) (k - (f + 1)) (f + 1) 1 = 0 ∧ ι 66 (rwM ι f) = 2 ∧ sm + ι 69 (rwM ι f) ≤ hh then dyN ι hh k f (sm + ι 69 (rwM ι f)) (imax lg (ι 68 (rwM ι f))) (imin d (ι 73 f + imax lg (ι 68 (rwM ι f)))) else d
def mDy1 (hh : Int32) (i : Nat) (ι : gIm) : gIm := up2 ι 73 (i + 1) (dyN ι hh (i + 1) (i + 1) 0 0 (ι 73 i + ι 68 (rwM ι i)))
def mDy (hh : Int32) (ns : Nat) (ι : gIm) : gIm := fo (mDy1 hh) ns 0 (up2 ι 73 0 0)
theorem up2_up2 {α : Type} (f : Nat → Nat → α) (c k : Nat) (v w : α) : up2 (up2 f c k v) c k w = up2 f c k w := by
  funext d i
  simp only [up2_get]
  split <;> rfl
theorem mDy_ne {hh : Int32} {c : Nat} (h : c ≠ 73) (m i : Nat) (z : gIm) : fo (mDy1 hh) m i z c = z c := by
  induction m generalizing i z with
  | zero => rfl
  | succ m ih => rw [fo_s, ih, mDy1, up2_ne _ _ _ h]
