/-! the class: steps, people -/
def sFd (x y : Int32) : Int32 := if x ^^^ y < 0 then (if x / y * y = x then x / y else x / y - 1) else x / y
def xTell (ι : gIm) (ns : Nat) (kind place d n a : Int32) : gIm := up2 (up2 (up2 (up2 (up2 (up2 (up2 ι 17 ns kind) 18 ns place) 19 ns d) 20 ns n) 21 ns a) 16 6 (ι 16 6 + 1)) 16 5 (nI ns + 1)
/-- where a step is, as the class finds it -/
def xPl (kind arg : Int32) : Int32 := if kind = 2 then sFd arg 100 else arg
def cStepX (kind arg d n a cnt : Int32) : Int32 :=
  if 0 ≤ kind ∧ kind < 3 then (if (0 ≤ xPl kind arg ∧ xPl kind arg < 6) ∧ 0 ≤ a ∧ a < 1 <<< (cnt &&& 31) then (if d < 1 ∨ n < 1 then -4 else if 9 < d ∨ 60 < n ∨ cnt = 12 then -6 else 0) else -1) else -2
def xAdd (ι : gIm) (np : Nat) (p b : Int32) : gIm := up2 (up2 (up2 (up2 (up2 ι 32 np p) 33 np b) 34 np 1) 35 np ((if p = -1 then 0 else b + 60) * 30 + nI np)) 31 4 (nI np + 1)
/-- the first of a parent behind a rank -/
def sNx1 (par rk : Nat → Int32) (p r : Int32) (c : Nat) (best : Int32) : Int32 := if par c = p ∧ r < rk c ∧ (best = -9 ∨ rk c < rk best.toNatClampNeg) then nI c else best
def sNx (par rk : Nat → Int32) (np : Nat) (p r : Int32) : Int32 := fo (sNx1 par rk p r) np 0 (-9)
def sBeh (par rk : Nat → Int32) (np : Nat) : Nat → Int32 → Int32 → Int32
  | 0, _, nx => nx
  | n + 1, f, nx => if nx = -9 ∧ 0 ≤ f ∧ f < nI np then sBeh par rk np n (par f.toNatClampNeg) (sNx par rk np (par f.toNatClampNeg) (rk f.toNatClampNeg)) else nx
def sFa (par rk born live : Nat → Int32) (np : Nat) (year : Int32) : Nat → Int32 → Int32
  | 0, _ => -9
  | n + 1, x => if 0 ≤ x ∧ x < nI np then (if ¬ live x.toNatClampNeg = 0 ∧ 20 ≤ year - born x.toNatClampNeg then x else sFa par rk born live np year n (sBeh par rk np 30 x (sNx par rk np x (-1)))) else -9
theorem k30 {i : Int32} {np : Nat} (h : 0 ≤ i ∧ i < nI np) (hp : np ≤ 30) : i < 30 := by
  have h2 := gIn_nn h hp (by omega)
  rw [h2.nI]
  exact (show nI _ < nI 30 from nI_lt h2.2 (by omega))
theorem fi3_in {c : Int32} (h : c = -3 ∨ c = -4 ∨ c = -6) : gIn (-c) 7 := by rcases h with h | h | h <;> rw [h] <;> exact ⟨by decide, by decide⟩
