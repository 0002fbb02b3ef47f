/-! the planner: open steps, the days that are left -/
theorem nI_or0 (a : Nat) : nI a ||| 0 = nI (a ||| 0) := by have := nI_or a 0; rwa [nI_0] at this
def okP (ι : gIm) (n ld tn : Nat) (P A H : Nat → Nat) : Prop := ι 22 9 = nI n ∧ n ≤ 8 ∧ ι 22 10 = nI ld ∧ ι 22 11 = nI tn ∧ ld < 256 ∧ tn < 256 ∧ (∀ s, s < n → ι 18 s = nI (P s) ∧ P s < 6) ∧ (∀ s, s < n → ι 21 s = nI (A s) ∧ A s < 256) ∧ (∀ S, S < 2 ^ n → ι 23 S = nI (H S) ∧ H S < 64) ∧ 2 ^ n ≤ 256
theorem okP_of {ι z : gIm} {n ld tn : Nat} {P A H : Nat → Nat} (h : okP ι n ld tn P A H) (h1 : z 22 = ι 22) (h2 : z 18 = ι 18) (h3 : z 21 = ι 21) (h4 : z 23 = ι 23) : okP z n ld tn P A H := by
  unfold okP at *
  rw [h1, h2, h3, h4]
  exact h
def mayI (ι : gIm) (ld tn : Nat) (P A H : Nat → Nat) (S s : Nat) : Bool := mayB (ι 17) P A H (ι 20) (ι 22 13) ld tn S s
def opI1 (ι : gIm) (ld tn : Nat) (P A H : Nat → Nat) (S s a : Nat) : Nat := a ||| (if ι 17 s = 2 ∧ mayI ι ld tn P A H S s = true then 2 ^ s else 0)
def opI (ι : gIm) (n ld tn : Nat) (P A H : Nat → Nat) (S : Nat) : Nat := fo (opI1 ι ld tn P A H S) n 0 0
def rgN (hT lg rs : Nat → Int32) (hh : Int32) (S b o : Nat) : Nat → Nat → Int32 → Int32
  | 0, _, l => l
  | k + 1, g, l => if g = 0 then (if hT (b ||| g) ≤ hh then imin l (lg (b ||| g) + rs (S ||| (b ||| g))) else l) else rgN hT lg rs hh S b o k ((g - 1) &&& o) (if hT (b ||| g) ≤ hh then imin l (lg (b ||| g) + rs (S ||| (b ||| g))) else l)
def rgI (ι : gIm) (S b o : Nat) : Int32 := rgN (ι 24) (ι 25) (ι 26) (ι 22 13) S b o 256 o 1000000
def otN (kd : Int32) (o s : Nat) : Nat := if kd = 2 then o &&& (256 - 2 ^ (s + 1)) else 0
def rfI1 (ι : gIm) (ld tn : Nat) (P A H : Nat → Nat) (S o s : Nat) (l : Int32) : Int32 := if mayI ι ld tn P A H S s = true then imin l (rgI ι S (2 ^ s) (otN (ι 17 s) o s)) else l
def rfI (ι : gIm) (n ld tn : Nat) (P A H : Nat → Nat) (S o : Nat) : Int32 := fo (rfI1 ι ld tn P A H S o) n 0 1000000
def xMe1 (n ld tn : Nat) (P A H : Nat → Nat) (S : Nat) (ι : gIm) : gIm := up2 (up2 ι 27 S (nI (opI ι n ld tn P A H S))) 26 S (rfI (up2 ι 27 S (nI (opI ι n ld tn P A H S))) n ld tn P A H S (opI ι n ld tn P A H S))
/-- k sets from the last but one down -/
def xMeN (n ld tn : Nat) (P A H : Nat → Nat) : Nat → gIm → gIm
  | 0, ι => ι
  | k + 1, ι => xMeN n ld tn P A H k (xMe1 n ld tn P A H k ι)
def xMe (n ld tn : Nat) (P A H : Nat → Nat) (ι : gIm) : gIm := xMeN n ld tn P A H (2 ^ n - 1) (up2 ι 26 (2 ^ n - 1) 0)
theorem opI_lt (ι : gIm) (n ld tn : Nat) (P A H : Nat → Nat) (S : Nat) : opI ι n ld tn P A H S < 2 ^ n := by
  unfold opI
  refine fo_inv (fun _ a => a < 2 ^ n) n (fun i a hi ha => ?_) n 0 0 (by omega) (Nat.two_pow_pos n)
  unfold opI1
  refine Nat.or_lt_two_pow ha ?_
  split
  · exact Nat.pow_lt_pow_right (by omega) hi
  · exact Nat.two_pow_pos n
theorem otN_lt {kd : Int32} {o s : Nat} (h : o < 256) : otN kd o s < 256 := by unfold otN; split; exact and_lt h; omega
theorem xMe1_ne {n ld tn : Nat} {P A H : Nat → Nat} {S : Nat} {ι : gIm} {c : Nat} (h : c ≠ 26) (h2 : c ≠ 27) : xMe1 n ld tn P A H S ι c = ι c := by unfold xMe1; rw [up2_ne _ _ _ h, up2_ne _ _ _ h2]
