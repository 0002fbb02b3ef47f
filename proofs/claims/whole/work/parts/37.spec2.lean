/-! the class: the bridge -/
/-- which ROPE hangs, as a number -/
def hgi (o : Option Nat) : Int32 := match o with
  | none => -9
  | some r => nI r
theorem hgi_neg {o : Option Nat} (h : ∀ r, o = some r → r < 1000) : hgi o < 0 ↔ o = none := by
  cases o with
  | none => exact ⟨fun _ => rfl, fun _ => by decide⟩
  | some r => exact ⟨fun h2 => absurd h2 (nI_pos (by have := h r rfl; omega)), fun h2 => by cases h2⟩
def sStX (ι : gIm) (sp : Nat → Option Nat) (year m : Int32) (p : Nat) : Int32 := match sp p with
  | none => 0
  | some r => vStg (ι (200 + r) 2) (ι 12 p) (year - ι 13 p) m
theorem sStX_nn (ι : gIm) (sp : Nat → Option Nat) (year m : Int32) (p : Nat) : 0 ≤ sStX ι sp year m p := by
  unfold sStX
  split
  · exact Int32.le_refl _
  · exact imax_nn _
def sBeX (ι : gIm) (sp : Nat → Option Nat) (year m : Int32) : Int32 := if sp 0 = none ∨ sp 1 = none ∨ sp 2 = none ∨ sp 3 = none then 0 else vBear (sStX ι sp year m) (ι 11)
def sLetX (ι : gIm) (sp : Nat → Option Nat) (year v m : Int32) : Int32 := vLet v (sBeX ι sp year m) (sStX ι sp year m 4) (sStX ι sp year m 5)
theorem vStg_eq (s w y h m : Int32) : imax 0 (s * 10 - ((w + m) / 3 + 40 * (y - h))) = vStg s w (y - h) m := by
  unfold vStg
  congr 1
  grind
theorem imin_2430 {x : Int32} (h : x ≤ 2430) : imin 2430 x = x := by unfold imin; grind
theorem imin_le {x y : Int32} (h : x ≤ 2430) : imin x y ≤ 2430 := by unfold imin; grind
def xHangI (ι : gIm) (r p : Nat) (pv year : Int32) : gIm := up2 (up2 (up2 (up2 (up2 ι 11 p 50) 12 p 0) 13 p year) (200 + r) 7 1) (200 + r) 8 pv
