/-! the model: the line of masters -/
def bKey (born : Nat → Int32) (c : Nat) : Int := (born c).toInt * 100 + c
/-- how many come behind q by birth and number -/
def afN (born : Nat → Int32) (np q : Nat) : Nat := (List.range np).countP (fun c => decide (bKey born q < bKey born c))
theorem countP_lt {α : Type} {P Q : α → Bool} : ∀ (l : List α), (∀ x, x ∈ l → P x = true → Q x = true) → (∃ x, x ∈ l ∧ Q x = true ∧ P x = false) → l.countP P < l.countP Q
  | [], _, h => by obtain ⟨x, hx, -⟩ := h; cases hx
  | a :: t, h1, h2 => by
    rw [List.countP_cons, List.countP_cons]
    have hm : t.countP P ≤ t.countP Q := List.countP_mono_left (fun x hx => h1 x (List.mem_cons_of_mem _ hx))
    obtain ⟨x, hx, hq, hp⟩ := h2
    rcases List.mem_cons.mp hx with rfl | hx
    · rw [if_pos hq, if_neg (by rw [hp]; decide)]
      omega
    · have ih := countP_lt t (fun x hx => h1 x (List.mem_cons_of_mem _ hx)) ⟨x, hx, hq, hp⟩
      have h3 := h1 a List.mem_cons_self
      by_cases h4 : P a = true
      · rw [if_pos h4, if_pos (h3 h4)]; omega
      · rw [if_neg h4]; omega
theorem afN_lt {born : Nat → Int32} {np q c : Nat} (hc : c < np) (h : bKey born q < bKey born c) : afN born np c < afN born np q := by
  unfold afN
  refine countP_lt _ (fun x _ hx => ?_) ⟨c, List.mem_range.mpr hc, ?_, ?_⟩
  · have := of_decide_eq_true hx
    exact decide_eq_true (by omega)
  · exact decide_eq_true h
  · exact decide_eq_false (by omega)
theorem afN_le (born : Nat → Int32) (np q : Nat) : afN born np q ≤ np := by
  unfold afN
  have := List.countP_le_length (p := fun c => decide (bKey born q < bKey born c)) (l := List.range np)
  rwa [List.length_range] at this
theorem sBef_key {born : Nat → Int32} {a b : Nat} (ha : a < 100) (hb : b < 100) : sBef born (nI a) (nI b) = 1 ↔ bKey born a < bKey born b := by
  unfold sBef bKey
  rw [nI_cl1 (by omega), nI_cl1 (by omega)]
  by_cases h : born a = born b
  · have e : (born a).toInt = (born b).toInt := by rw [h]
    have e2 : (nI a < nI b) ↔ a < b := nI_lt1 (by omega) (by omega)
    by_cases h3 : a < b
    · rw [if_pos (by rw [if_neg (fun h9 => h9 h)]; exact e2.mpr h3)]
      constructor
      · intro _; omega
      · intro _; rfl
    · rw [if_neg (by rw [if_neg (fun h9 => h9 h)]; exact fun h9 => h3 (e2.mp h9))]
      constructor
      · intro h9; exact absurd h9 (by decide)
      · intro h9; omega
  · have e : (born a).toInt ≠ (born b).toInt := fun h9 => h (Int32.toInt_inj.mp h9)
    by_cases h3 : born a < born b
    · have h4 := Int32.lt_iff_toInt_lt.mp h3
      rw [if_pos (by rw [if_pos h]; exact h3)]
      constructor
      · intro _; omega
      · intro _; rfl
    · have h4 : ¬ (born a).toInt < (born b).toInt := fun h9 => h3 (Int32.lt_iff_toInt_lt.mpr h9)
      rw [if_neg (by rw [if_pos h]; exact h3)]
      constructor
      · intro h9; exact absurd h9 (by decide)
      · intro h9; omega
/-- what child answers -/
theorem sChild_is {par born : Nat → Int32} {np : Nat} {p q : Int32} : sChild par born np p q = -9 ∨ ∃ c, c < np ∧ sChild par born np p q = nI c ∧ par c = p ∧ (q < 0 ∨ sBef born q (nI c) = 1) := by
  unfold sChild
  refine fo_inv (fun _ a => a = -9 ∨ ∃ c, c < np ∧ a = nI c ∧ par c = p ∧ (q < 0 ∨ sBef born q (nI c) = 1)) np (fun i a hi h => ?_) np 0 (-9) (by omega) (Or.inl rfl)
  unfold sCh1
  split
  · rename_i h9
    exact Or.inr ⟨i, hi, rfl, h9.1, h9.2.1⟩
  · exact h
def lwN (par born : Nat → Int32) (np : Nat) (f : Int32 → Int32) (p : Int32) : Nat → Int32 → Int32 → Int32
  | 0, _, b => b
  | k + 1, nx, b => if 0 ≤ nx ∧ b < 0 then lwN par born np f p k (sChild par born np p nx) (f nx) else b
def lnN (par born live : Nat → Int32) (np : Nat) (year : Int32) : Nat → Nat → Int32
  | 0, _ => -9
  | m + 1, q => if ¬ live q = 0 ∧ 20 ≤ year - born q then nI q else lwN par born np (fun x => lnN par born live np year m x.toNatClampNeg) (nI q) (np + 1) (sChild par born np (nI q) (-1)) (-9)
