/-! sets of steps as numbers -/
theorem nI_and (a b : Nat) : nI a &&& nI b = nI (a &&& b) := Int32.toBitVec_inj.mp (by rw [Int32.toBitVec_and]; exact (BitVec.ofNat_and ..).symm)
theorem nI_or (a b : Nat) : nI a ||| nI b = nI (a ||| b) := Int32.toBitVec_inj.mp (by rw [Int32.toBitVec_or]; exact (BitVec.ofNat_or ..).symm)
theorem nI_xor (a b : Nat) : nI a ^^^ nI b = nI (a ^^^ b) := Int32.toBitVec_inj.mp (by rw [Int32.toBitVec_xor]; exact (BitVec.ofNat_xor ..).symm)
theorem nI_shl : ∀ s, s < 16 → (1 : Int32) <<< (nI s &&& 31) = nI (2 ^ s) := by decide +kernel
theorem nI_sub2 {a b : Nat} (ha : a < 256) (hb : b < 256) : nI a &&& (nI b ^^^ (-1)) = nI (a &&& (255 ^^^ b)) := by
  rw [show (-1 : Int32) = nI 4294967295 from by decide +kernel, nI_xor, nI_and]
  congr 1
  apply Nat.eq_of_testBit_eq
  intro i
  rw [Nat.testBit_and, Nat.testBit_and, Nat.testBit_xor, Nat.testBit_xor]
  rcases Nat.lt_or_ge i 8 with h | h
  · rw [show (4294967295 : Nat) = 2 ^ 32 - 1 from rfl, show (255 : Nat) = 2 ^ 8 - 1 from rfl, Nat.testBit_two_pow_sub_one, Nat.testBit_two_pow_sub_one]
    simp [h, show i < 32 by omega]
  · rw [Nat.testBit_lt_two_pow (Nat.lt_of_lt_of_le ha (show 2 ^ 8 ≤ 2 ^ i from Nat.pow_le_pow_right (by omega) h))]
    simp
theorem nI_neg2 : ∀ s, s < 8 → ∀ o, o < 256 → nI o &&& (-((2 : Int32) <<< (nI s &&& 31))) = nI (o &&& (256 - 2 ^ (s + 1))) := by decide +kernel
theorem nI_eq0 {k : Nat} (h : k < 1000000) : nI k = 0 ↔ k = 0 := by
  constructor
  · intro h2
    rcases Nat.eq_zero_or_pos k with h3 | h3
    · exact h3
    · exact absurd h2 (nI_ne0 h3 (by omega))
  · intro h2; subst h2; rfl
/-- how many bits of eight -/
def pc (k : Nat) : Nat := k % 2 + k / 2 % 2 + k / 4 % 2 + k / 8 % 2 + k / 16 % 2 + k / 32 % 2 + k / 64 % 2 + k / 128 % 2
theorem pc_le (k : Nat) : pc k ≤ 8 := by unfold pc; omega
theorem and_lt {a b n : Nat} (h : a < n) : a &&& b < n := Nat.lt_of_le_of_lt Nat.and_le_left h
theorem or8 {a b : Nat} (h : a < 256) (h2 : b < 256) : a ||| b < 256 := Nat.or_lt_two_pow (n := 8) h h2
theorem orn {a b n : Nat} (h : a < 2 ^ n) (h2 : b < 2 ^ n) : a ||| b < 2 ^ n := Nat.or_lt_two_pow h h2
theorem two8 {s : Nat} (h : s < 8) : 2 ^ s < 256 := Nat.pow_lt_pow_right (a := 2) (m := s) (n := 8) (by omega) h
def bcf (x0 : Int32) : Int32 :=
  let s (x : Int32) (n : Int32) : Int32 := (x.toUInt32 >>> (((n : Int32)).toUInt32 &&& Int32.toUInt32 31)).toInt32
  let x1 := x0 - (s x0 1 &&& 1431655765)
  let x2 := (x1 &&& 858993459) + (s x1 2 &&& 858993459)
  let x3 := (x2 + s x2 4) &&& 252645135
  let x4 := x3 + s x3 8
  let x5 := x4 + s x4 16
  x5 &&& 63
theorem bc_eq : ∀ k, k < 256 → bcf (nI k) = nI (pc k) := by decide +kernel
/-- whether a step may be done next, the steps of S done -/
def twoB (P H : Nat → Nat) (S s : Nat) : Bool := decide (2 ≤ pc (H S &&& 15 &&& (255 ^^^ 2 ^ P s)))
def hasB (P H : Nat → Nat) (S s : Nat) : Bool := decide (¬ H S &&& 2 ^ P s = 0)
def mayB (kd : Nat → Int32) (P A H : Nat → Nat) (hd : Nat → Int32) (hh : Int32) (ld tn : Nat) (S s : Nat) : Bool :=
  decide (S &&& 2 ^ s = 0) && decide (A s &&& (255 ^^^ S) = 0) && decide (hd s ≤ hh) &&
  (if kd s = 0 then !hasB P H S s && (twoB P H S s || decide (pc (S &&& ld) < 2)) else if kd s = 1 then hasB P H S s && (twoB P H S s || decide ((ld ||| tn) &&& (255 ^^^ S) = 0)) else hasB P H S s && twoB P H S s)
