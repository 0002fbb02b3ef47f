/-! the planner: sums over sets -/
/-- over the members of a set below 2^n -/
def sv {α : Type} (op : Nat → α → α) (a0 : α) : Nat → Nat → α
  | 0, _ => a0
  | n + 1, S => if S < 2 ^ n then sv op a0 n S else op n (sv op a0 n (S - 2 ^ n))
theorem sv_lo {α : Type} {op : Nat → α → α} {a0 : α} {n S : Nat} (h : S < 2 ^ n) : sv op a0 (n + 1) S = sv op a0 n S := by rw [sv, if_pos h]
theorem sv_hi {α : Type} {op : Nat → α → α} {a0 : α} {n j : Nat} : sv op a0 (n + 1) (2 ^ n + j) = op n (sv op a0 n j) := by rw [sv, if_neg (by omega), Nat.add_sub_cancel_left]
theorem tb_hi {n x s : Nat} (h : x < 2 ^ n) : tb (2 ^ n + x) s ↔ s = n ∨ tb x s := by
  have e := Nat.two_pow_add_eq_or_of_lt h 1
  rw [Nat.mul_one] at e
  rw [e, tb_or, tb_two]
theorem sv_0 {α : Type} {op : Nat → α → α} {a0 : α} : ∀ n, sv op a0 n 0 = a0
  | 0 => rfl
  | n + 1 => by rw [sv_lo (Nat.two_pow_pos n), sv_0 n]
theorem lo_or_hi {n S : Nat} (h : S < 2 ^ (n + 1)) : S < 2 ^ n ∨ ∃ x, x < 2 ^ n ∧ S = 2 ^ n + x := by
  rcases Nat.lt_or_ge S (2 ^ n) with g | g
  · exact Or.inl g
  · exact Or.inr ⟨S - 2 ^ n, by rw [Nat.pow_succ] at h; omega, by omega⟩
theorem not_tb_hi {n S : Nat} (h : S < 2 ^ n) : ¬ tb S n := fun g => Nat.lt_irrefl _ (tb_lt h g)
theorem or_hi {n x s : Nat} (hx : x < 2 ^ n) (hs : s < n) : (2 ^ n + x) ||| 2 ^ s = 2 ^ n + (x ||| 2 ^ s) := by
  have h2 : x ||| 2 ^ s < 2 ^ n := Nat.or_lt_two_pow hx (Nat.pow_lt_pow_right (by omega) hs)
  refine tb_ext (fun t => ?_)
  rw [tb_or, tb_hi hx, tb_hi h2, tb_or, tb_two]
  exact or_assoc
theorem or_top {n x : Nat} (hx : x < 2 ^ n) : x ||| 2 ^ n = 2 ^ n + x := by
  refine tb_ext (fun t => ?_)
  rw [tb_or, tb_hi hx, tb_two]
  exact or_comm
/-- one more member -/
theorem sv_in {α : Type} {op : Nat → α → α} {a0 : α} (hc : ∀ s t a, op s (op t a) = op t (op s a)) : ∀ n G s, G < 2 ^ n → s < n → ¬ tb G s → sv op a0 n (G ||| 2 ^ s) = op s (sv op a0 n G)
  | 0, _, _, _, h, _ => by omega
  | n + 1, G, s, hG, hs, hn => by
    rcases lo_or_hi hG with g | ⟨x, g, rfl⟩
    · by_cases q : s = n
      · subst q
        rw [or_top g, sv_hi, sv_lo g]
      · rw [sv_lo (Nat.or_lt_two_pow g (Nat.pow_lt_pow_right (by omega) (by omega))), sv_lo g, sv_in hc n G s g (by omega) hn]
    · have hsn : s ≠ n := fun e => hn ((tb_hi g).mpr (Or.inl e))
      have hx : ¬ tb x s := fun e => hn ((tb_hi g).mpr (Or.inr e))
      rw [or_hi g (by omega), sv_hi, sv_hi, sv_in hc n x s g (by omega) hx, hc]
theorem sv_two {α : Type} {op : Nat → α → α} {a0 : α} (hc : ∀ s t a, op s (op t a) = op t (op s a)) {n s : Nat} (hs : s < n) : sv op a0 n (2 ^ s) = op s a0 := by
  have := sv_in (a0 := a0) hc n 0 s (Nat.two_pow_pos n) hs tb_0
  rw [Nat.zero_or, sv_0] at this
  exact this
def svA (f : Nat → Nat) : Nat → Nat → Nat := sv (fun s a => a + f s) 0
def svX (f : Nat → Nat) : Nat → Nat → Nat := sv (fun s a => max a (f s)) 0
def svH (mv : Nat → Nat) (H0 : Nat) : Nat → Nat → Nat := sv (fun s a => a ^^^ mv s) H0
theorem svA_le (f : Nat → Nat) : ∀ n G G', sub G G' → G' < 2 ^ n → svA f n G ≤ svA f n G'
  | 0, _, _, _, _ => Nat.le_refl _
  | n + 1, G, G', h, h2 => by
    have hG : G < 2 ^ (n + 1) := lt_of_tb (fun s hs => tb_lt h2 (h s hs))
    unfold svA at *
    rcases lo_or_hi h2 with g | ⟨x', g, rfl⟩
    · have hG2 : G < 2 ^ n := lt_of_tb (fun s hs => tb_lt g (h s hs))
      rw [sv_lo g, sv_lo hG2]
      exact svA_le f n G G' h g
    · rcases lo_or_hi hG with q | ⟨x, q, rfl⟩
      · rw [sv_lo q, sv_hi]
        have : sub G x' := fun s hs => ((tb_hi g).mp (h s hs)).resolve_left (fun e => not_tb_hi q (by rw [← e]; exact hs))
        have := svA_le f n G x' this g
        unfold svA at this
        omega
      · rw [sv_hi, sv_hi]
        have : sub x x' := fun s hs => ((tb_hi g).mp (h s ((tb_hi q).mpr (Or.inr hs)))).resolve_left (fun e => not_tb_hi q (by rw [← e]; exact hs))
        have := svA_le f n x x' this g
        unfold svA at this
        omega
theorem svA_bd {f : Nat → Nat} {b : Nat} : ∀ n S, (∀ s, s < n → f s ≤ b) → svA f n S ≤ b * n
  | 0, _, _ => by unfold svA sv; omega
  | n + 1, S, h => by
    have := svA_bd n S (fun s hs => h s (by omega))
    have h2 := svA_bd n (S - 2 ^ n) (fun s hs => h s (by omega))
    have h3 := h n (by omega)
    unfold svA at *
    rw [sv, Nat.mul_succ]
    split <;> omega
theorem svX_bd {f : Nat → Nat} {b : Nat} : ∀ n S, (∀ s, s < n → f s ≤ b) → svX f n S ≤ b
  | 0, _, _ => by unfold svX sv; omega
  | n + 1, S, h => by
    have := svX_bd n S (fun s hs => h s (by omega))
    have h2 := svX_bd n (S - 2 ^ n) (fun s hs => h s (by omega))
    have h3 := h n (by omega)
    unfold svX at *
    rw [sv]
    split <;> omega
theorem svH_bd {mv : Nat → Nat} {H0 : Nat} (h0 : H0 < 64) : ∀ n S, (∀ s, s < n → mv s < 64) → svH mv H0 n S < 64
  | 0, _, _ => h0
  | n + 1, S, h => by
    have h1 := svH_bd h0 n S (fun s hs => h s (by omega))
    have h2 := svH_bd h0 n (S - 2 ^ n) (fun s hs => h s (by omega))
    have h3 := h n (by omega)
    unfold svH at *
    rw [sv]
    split
    · exact h1
    · exact Nat.xor_lt_two_pow (n := 6) h2 h3
theorem imax_nI {a b : Nat} (ha : a < 1000000) (hb : b < 1000000) : imax (nI a) (nI b) = nI (max a b) := by
  unfold imax
  by_cases h : a < b
  · rw [if_pos ((nI_lt1 ha hb).mpr h), Nat.max_eq_right (by omega)]
  · rw [if_neg (fun g => h ((nI_lt1 ha hb).mp g)), Nat.max_eq_left (by omega)]
theorem imin_nI {a b : Nat} (ha : a < 1000000000) (hb : b < 1000000000) : imin (nI a) (nI b) = nI (min a b) := by
  unfold imin
  by_cases h : a ≤ b
  · rw [if_pos ((nI_leI (by omega) (by omega)).mpr h), Nat.min_eq_left h]
  · rw [if_neg (fun g => h ((nI_leI (by omega) (by omega)).mp g)), Nat.min_eq_right (by omega)]
/-- the kinds, places .. of the steps, as the planner reads them -/
def mvN (kd : Nat → Int32) (P : Nat → Nat) (s : Nat) : Nat := if kd s = 2 then 0 else 2 ^ P s
def ldB (kd : Nat → Int32) (x : Int32) (n : Nat) : Nat := fo (fun s a => a ||| (if kd s = x then 2 ^ s else 0)) n 0 0
def okD (ι : gIm) (n : Nat) (P hd dy : Nat → Nat) : Prop := ∀ s, s < n → P s < 6 ∧ ι 20 s = nI (hd s) ∧ hd s ≤ 60 ∧ ι 19 s = nI (dy s) ∧ dy s ≤ 9
/-- the rows behind sumSets, i steps in -/
def suJ (ι : gIm) (P hd dy : Nat → Nat) (H0 : Nat) (i : Nat) (z : gIm) : Prop := (z 17 = ι 17 ∧ z 19 = ι 19 ∧ z 20 = ι 20) ∧ (z 22 10 = nI (ldB (ι 17) 0 i) ∧ z 22 11 = nI (ldB (ι 17) 2 i)) ∧
  ∀ S, S < 2 ^ i → z 23 S = nI (svH (mvN (ι 17) P) H0 i S) ∧ z 24 S = nI (svA hd i S) ∧ z 25 S = nI (svX dy i S)
theorem ldB_s (kd : Nat → Int32) (x : Int32) (n : Nat) : ldB kd x (n + 1) = ldB kd x n ||| (if kd n = x then 2 ^ n else 0) := by
  unfold ldB
  rw [fo_last, Nat.zero_add]
theorem xSu2_get (s : Nat) (mv : Int32) (j : Nat) (z : gIm) (d i : Nat) : xSu2 s mv j z d i = if d = 25 ∧ i = 2 ^ s + j then imax (z 25 j) (z 19 s) else if d = 24 ∧ i = 2 ^ s + j then z 24 j + z 20 s else if d = 23 ∧ i = 2 ^ s + j then z 23 j ^^^ mv else z d i := by
  unfold xSu2
  simp only [up2_get]
theorem suJ_s {ι : gIm} {n : Nat} {P hd dy : Nat → Nat} {H0 : Nat} (hD : okD ι n P hd dy) (h0 : H0 < 64) (hn : n ≤ 8) {i : Nat} (hi : i < n) {z : gIm} (h : suJ ι P hd dy H0 i z) : suJ ι P hd dy H0 (i + 1) (xSu1 P i z) := by
  obtain ⟨⟨z1, z2, z3⟩, ⟨l1, l2⟩, hS⟩ := h
  have hmv : mvI z P i = nI (mvN (ι 17) P i) := by
    unfold mvI mvN
    rw [z1]
    split <;> rfl
  have hb : ∀ s, s < n → mvN (ι 17) P s < 64 := by
    intro s hs
    unfold mvN
    split
    · omega
    · exact Nat.pow_lt_pow_right (a := 2) (n := 6) (by omega) (hD s hs).1
  have ne : ∀ c, ¬ (c = 22 ∨ c = 23 ∨ c = 24 ∨ c = 25) → xSu1 P i z c = z c := fun c hc => xSu1_ne (by omega)
  have hx : ∀ c, ¬ c = 22 → xLd z i c = z c := fun c hc => by unfold xLd; rw [up2_ne _ _ _ hc, up2_ne _ _ _ hc]
  obtain ⟨p1, p2, p3, p4, p5⟩ := hD i hi
  -- the inner loop
  have inner : ∀ m j (y : gIm), j + m = 2 ^ i → (y 19 = z 19 ∧ y 20 = z 20) → (∀ S, S < 2 ^ i → y 23 S = z 23 S ∧ y 24 S = z 24 S ∧ y 25 S = z 25 S) → (∀ t, t < j → y 23 (2 ^ i + t) = z 23 t ^^^ mvI z P i ∧ y 24 (2 ^ i + t) = z 24 t + z 20 i ∧ y 25 (2 ^ i + t) = imax (z 25 t) (z 19 i)) →
      let w := fo (xSu2 i (mvI z P i)) m j y
      (∀ S, S < 2 ^ i → w 23 S = z 23 S ∧ w 24 S = z 24 S ∧ w 25 S = z 25 S) ∧ (∀ t, t < 2 ^ i → w 23 (2 ^ i + t) = z 23 t ^^^ mvI z P i ∧ w 24 (2 ^ i + t) = z 24 t + z 20 i ∧ w 25 (2 ^ i + t) = imax (z 25 t) (z 19 i)) := by
    intro m
    induction m with
    | zero =>
      intro j y hj _ h1 h2
      exact ⟨h1, fun t ht => h2 t (by omega)⟩
    | succ m ih =>
      intro j y hj hy h1 h2
      rw [fo_s]
      obtain ⟨q1, q2, q3⟩ := h1 j (by omega)
      refine ih (j + 1) _ (by omega) ⟨?_, ?_⟩ (fun S hS => ?_) (fun t ht => ?_)
      · funext t; rw [xSu2_get, if_neg (by omega), if_neg (by omega), if_neg (by omega), hy.1]
      · funext t; rw [xSu2_get, if_neg (by omega), if_neg (by omega), if_neg (by omega), hy.2]
      · rw [xSu2_get, xSu2_get, xSu2_get, if_neg (by omega), if_neg (by omega), if_neg (by omega), if_neg (by omega), if_neg (by omega), if_neg (by omega), if_neg (by omega), if_neg (by omega), if_neg (by omega)]
        exact h1 S hS
      · by_cases q : t = j
        · subst q
          rw [xSu2_get, xSu2_get, xSu2_get, if_neg (by omega), if_neg (by omega), if_pos ⟨rfl, rfl⟩, if_neg (by omega), if_pos ⟨rfl, rfl⟩, if_pos ⟨rfl, rfl⟩, q1, q2, q3, hy.1, hy.2]
          exact ⟨rfl, rfl, rfl⟩
        · rw [xSu2_get, xSu2_get, xSu2_get, if_neg (by omega), if_neg (by omega), if_neg (by omega), if_neg (by omega), if_neg (by omega), if_neg (by omega), if_neg (by omega), if_neg (by omega), if_neg (by omega)]
          exact h2 t (by omega)
  have hin := inner (2 ^ i) 0 (xLd z i) (by omega) ⟨hx 19 (by decide), hx 20 (by decide)⟩ (fun S _ => by rw [hx 23 (by decide), hx 24 (by decide), hx 25 (by decide)]; exact ⟨rfl, rfl, rfl⟩) (fun t ht => by omega)
  have e1 : xSu1 P i z = fo (xSu2 i (mvI z P i)) (2 ^ i) 0 (xLd z i) := rfl
  dsimp only at hin
  rw [← e1] at hin
  refine ⟨⟨by rw [ne 17 (by decide), z1], by rw [ne 19 (by decide), z2], by rw [ne 20 (by decide), z3]⟩, ⟨?_, ?_⟩, fun S hS2 => ?_⟩
  · rw [e1, xSu2_ne (by decide)]
    unfold xLd
    rw [up2_get, if_neg (by omega), up2_get, if_pos ⟨rfl, rfl⟩, l1, z1, ldB_s]
    split
    · rw [nI_or]
    · rw [nI_or0]
  · rw [e1, xSu2_ne (by decide)]
    unfold xLd
    rw [up2_get, if_pos ⟨rfl, rfl⟩, l2, z1, ldB_s]
    split
    · rw [nI_or]
    · rw [nI_or0]
  · unfold svH svA svX at *
    rcases lo_or_hi hS2 with g | ⟨x, g, rfl⟩
    · rw [sv_lo g, sv_lo g, sv_lo g, (hin.1 S g).1, (hin.1 S g).2.1, (hin.1 S g).2.2]
      exact hS S g
    · rw [sv_hi, sv_hi, sv_hi, (hin.2 x g).1, (hin.2 x g).2.1, (hin.2 x g).2.2]
      obtain ⟨g1, g2, g3⟩ := hS x g
      rw [g1, g2, g3, hmv, z2, z3, p2, p4, nI_xor, nI_add]
      have := svX_bd (f := dy) (b := 9) i x (fun s hs => (hD s (by omega)).2.2.2.2)
      unfold svX at this
      exact ⟨rfl, rfl, imax_nI (by omega) (by omega)⟩
