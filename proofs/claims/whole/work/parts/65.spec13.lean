/-! the model: plans, II -/
def upM (ι : gIm) : Nat := fo (fun p a => a ||| (if ι 59 p < 0 then 0 else 2 ^ p)) 6 0 0
theorem upM_lt (ι : gIm) : upM ι < 64 := by
  unfold upM
  refine fo_inv (fun _ a => a < 64) 6 (fun i a hi ha => ?_) 6 0 0 (by omega) (by omega)
  refine Nat.or_lt_two_pow (n := 6) ha ?_
  split
  · omega
  · exact Nat.pow_lt_pow_right (a := 2) (n := 6) (by omega) hi
def mayM (ι : gIm) (hh : Int32) (ns : Nat) : Int32 := fo (fun s t => if ¬ t = 0 ∧ ι 69 s ≤ hh then 1 else 0) ns 0 1
def mPlans (ns nh : Nat) (P A : Nat → Nat) (ι : gIm) : gIm := if mayM ι (sHands (ι 50) (ι 44) nh) ns = 0 then up2 ι 40 41 (-1) else mTr ns nh P A ns 0 (upM ι) 0 0 0 (up2 ι 40 41 (-1))
def vDaysM (ι : gIm) : Int32 := if ι 40 41 < 0 then -9 else ι 40 41
def vStepM (ι : gIm) (k ns : Int32) : Int32 := if ¬ ι 40 41 < 0 ∧ 0 ≤ k ∧ k < ns then ι 72 k.toNatClampNeg else -9
theorem okT_plans {ns nh : Nat} {P A : Nat → Nat} {ι : gIm} (hs : ns ≤ 8) (h : okT ns nh P A 0 ι) : okT ns nh P A 0 (mPlans ns nh P A ι) := by
  have h2 : okT ns nh P A 0 (up2 ι 40 41 (-1)) := okT_of h (by rw [up2_row, va_up_ne _ _ (by decide)]) (by rw [up2_row, va_up_ne _ _ (by decide)]) (by rw [up2_ne _ _ _ (by decide)]) (by rw [up2_ne _ _ _ (by decide)]) (by rw [up2_ne _ _ _ (by decide)])
  unfold mPlans
  split
  · exact h2
  · exact okT_tr hs _ _ _ _ _ _ _ h2
