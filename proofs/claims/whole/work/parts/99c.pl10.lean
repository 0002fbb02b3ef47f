/-! the planner of the model: which step may come next -/
theorem pc_in : ∀ s, s < 8 → ∀ G, G < 256 → G.testBit s = false → pc (G ||| 2 ^ s) = pc G + 1 := by decide +kernel
theorem up_b1 : ∀ p, p < 6 → ∀ u, u < 64 → pc (((u ||| 2 ^ p) &&& (255 ^^^ 2 ^ p)) &&& 15) = pc (u &&& 15 &&& (255 ^^^ 2 ^ p)) ∧ pc ((u &&& (255 ^^^ 2 ^ p)) &&& 15) = pc (u &&& 15 &&& (255 ^^^ 2 ^ p)) ∧ pc (((u &&& (255 ^^^ 2 ^ p)) &&& (255 ^^^ 2 ^ p)) &&& 15) = pc (u &&& 15 &&& (255 ^^^ 2 ^ p)) ∧ (u &&& 2 ^ p = 0 → u ||| 2 ^ p = u ^^^ 2 ^ p) ∧ (¬ u &&& 2 ^ p = 0 → u &&& (255 ^^^ 2 ^ p) = u ^^^ 2 ^ p) := by decide +kernel
def fr (k : Nat) (y z : gIm) : Prop := (∀ c, c ≠ 40 → c ≠ 71 → c ≠ 72 → c ≠ 73 → y c = z c) ∧ (∀ j, j ≠ 41 → y 40 j = z 40 j) ∧ ∀ j, j < k → y 71 j = z 71 j
theorem fr_refl (k : Nat) (z : gIm) : fr k z z := ⟨fun _ _ _ _ _ => rfl, fun _ _ => rfl, fun _ _ => rfl⟩
theorem fr_tr {k : Nat} {x y z : gIm} (h : fr k x y) (h2 : fr k y z) : fr k x z := ⟨fun c a b d e => (h.1 c a b d e).trans (h2.1 c a b d e), fun j a => (h.2.1 j a).trans (h2.2.1 j a), fun j a => (h.2.2 j a).trans (h2.2.2 j a)⟩
theorem fr_up {k : Nat} {x y : gIm} {v : Int32} (h : fr (k + 1) x (up2 y 71 k v)) : fr k x y := ⟨fun c a b d e => (h.1 c a b d e).trans (up2_ne _ _ _ b), fun j a => by rw [h.2.1 j a, up2_ne _ _ _ (by decide)], fun j a => by rw [h.2.2 j (by omega), up2_get, if_neg (by omega)]⟩
section MD2
variable {w : gIm} {n nh : Nat} {P A hd dy : Nat → Nat} {H0 hhN : Nat}
theorem mi_fr {k : Nat} {x y : gIm} (h : mi w n nh A hd dy hhN y) (f : fr k x y) : mi w n nh A hd dy hhN x := by
  unfold mi
  rw [f.1 66 (by decide) (by decide) (by decide) (by decide), f.1 68 (by decide) (by decide) (by decide) (by decide), f.1 69 (by decide) (by decide) (by decide) (by decide), f.1 70 (by decide) (by decide) (by decide) (by decide), f.1 50 (by decide) (by decide) (by decide) (by decide), f.1 44 (by decide) (by decide) (by decide) (by decide)]
  exact h
theorem mi_up {x : gIm} {k : Nat} {v : Int32} (h : mi w n nh A hd dy hhN x) : mi w n nh A hd dy hhN (up2 x 71 k v) := by
  unfold mi
  rw [up2_ne _ _ _ (by decide), up2_ne _ _ _ (by decide), up2_ne _ _ _ (by decide), up2_ne _ _ _ (by decide), up2_ne _ _ _ (by decide), up2_ne _ _ _ (by decide)]
  exact h
/-- all that must come ahead of the end is done -/
def allD (w : gIm) (n S : Nat) : Prop := ∀ t, t < n → ¬ w 17 t = 1 → tb S t
theorem allD_iff (h : pf w n P A hd dy H0 hhN) (hk : ∀ s, s < n → w 17 s = 0 ∨ w 17 s = 1 ∨ w 17 s = 2) (S : Nat) : ((ldB (w 17) 0 n) ||| (ldB (w 17) 2 n)) &&& (255 ^^^ S) = 0 ↔ allD w n S := by
  have h8 := n256 h.1.1
  have l0 := ldB_lt (w 17) 0 n
  have l2 := ldB_lt (w 17) 2 n
  rw [sub255 (or8 (by omega) (by omega))]
  constructor
  · intro hs t ht h1
    refine hs t (tb_or.mpr ?_)
    rcases hk t ht with q | q | q
    · exact Or.inl ((ldB_tb _ _ _ _).mpr ⟨ht, q⟩)
    · exact absurd q h1
    · exact Or.inr ((ldB_tb _ _ _ _).mpr ⟨ht, q⟩)
  · intro ha t ht
    rcases tb_or.mp ht with q | q
    · obtain ⟨q1, q2⟩ := (ldB_tb _ _ _ _).mp q
      exact ha t q1 (by rw [q2]; decide)
    · obtain ⟨q1, q2⟩ := (ldB_tb _ _ _ _).mp q
      exact ha t q1 (by rw [q2]; decide)
/-- what both ask of a step -/
def cmn (w : gIm) (n : Nat) (P A : Nat → Nat) (H0 S s : Nat) : Prop := ¬ tb S s ∧ sub (A s) S ∧ (w 17 s = 0 → (svH (mvN (w 17) P) H0 n S) &&& 2 ^ P s = 0 ∧ (2 ≤ pc ((svH (mvN (w 17) P) H0 n S) &&& 15 &&& (255 ^^^ 2 ^ P s)) ∨ pc (S &&& (ldB (w 17) 0 n)) < 2)) ∧ (w 17 s = 1 → ¬ (svH (mvN (w 17) P) H0 n S) &&& 2 ^ P s = 0) ∧ (w 17 s = 2 → ¬ (svH (mvN (w 17) P) H0 n S) &&& 2 ^ P s = 0 ∧ 2 ≤ pc ((svH (mvN (w 17) P) H0 n S) &&& 15 &&& (255 ^^^ 2 ^ P s)))
def twoP (w : gIm) (n : Nat) (P : Nat → Nat) (H0 S s : Nat) : Prop := 2 ≤ pc ((svH (mvN (w 17) P) H0 n S) &&& 15 &&& (255 ^^^ 2 ^ P s))
theorem qM_iff (h : pf w n P A hd dy H0 hhN) (hk : ∀ s, s < n → w 17 s = 0 ∨ w 17 s = 1 ∨ w 17 s = 2) (hh : ∀ s, s < n → hd s ≤ hhN) {S s : Nat} (hs : s < n) : qM w n P A H0 S s ↔ cmn w n P A H0 S s ∧ (w 17 s = 1 → twoP w n P H0 S s ∨ allD w n S) := by
  have ha := allD_iff h hk S
  have e : qM w n P A H0 S s ↔ mayB (w 17) P A (svH (mvN (w 17) P) H0 n) (w 20) (w 22 13) (ldB (w 17) 0 n) (ldB (w 17) 2 n) S s = true := ⟨fun g => g.2, fun g => ⟨hs, g⟩⟩
  have hle : w 20 s ≤ w 22 13 := by
    rw [(h.2.1 s hs).2.1, h.1.2.2.1, nI_le1 (by have := (h.2.1 s hs).2.2.1; omega) h.1.2.2.2]
    exact hh s hs
  have hS : S &&& 2 ^ s = 0 ↔ ¬ tb S s := by
    constructor
    · intro g q
      have : tb (S &&& 2 ^ s) s := tb_and.mpr ⟨q, tb_two.mpr rfl⟩
      rw [g] at this
      exact tb_0 this
    · intro g
      refine tb_ext (fun i => ⟨fun q => ?_, fun q => absurd q tb_0⟩)
      obtain ⟨q1, q2⟩ := tb_and.mp q
      rw [tb_two.mp q2] at q1
      exact absurd q1 g
  rw [e]
  unfold mayB hasB twoB cmn twoP
  rw [Bool.and_eq_true, Bool.and_eq_true, Bool.and_eq_true, decide_eq_true_eq, decide_eq_true_eq, decide_eq_true_eq, hS, sub255 (h.2.2.1 s hs)]
  rcases hk s hs with k | k | k <;> rw [k]
  · rw [if_pos rfl]
    simp only [Bool.and_eq_true, Bool.or_eq_true, Bool.not_eq_true', decide_eq_true_eq, decide_eq_false_iff_not, Classical.not_not]
    constructor
    · rintro ⟨⟨⟨g1, g2⟩, -⟩, g3, g4⟩
      exact ⟨⟨g1, g2, fun _ => ⟨g3, g4⟩, fun c => absurd c (by decide), fun c => absurd c (by decide)⟩, fun c => absurd c (by decide)⟩
    · rintro ⟨⟨g1, g2, g3, -, -⟩, -⟩
      exact ⟨⟨⟨g1, g2⟩, hle⟩, (g3 trivial).1, (g3 trivial).2⟩
  · rw [if_neg (by decide), if_pos rfl]
    simp only [Bool.and_eq_true, Bool.or_eq_true, decide_eq_true_eq]
    constructor
    · rintro ⟨⟨⟨g1, g2⟩, -⟩, g3, g4⟩
      exact ⟨⟨g1, g2, fun c => absurd c (by decide), fun _ => g3, fun c => absurd c (by decide)⟩, fun _ => g4.imp id ha.mp⟩
    · rintro ⟨⟨g1, g2, -, g3, -⟩, g4⟩
      exact ⟨⟨⟨g1, g2⟩, hle⟩, g3 trivial, (g4 trivial).imp id ha.mpr⟩
  · rw [if_neg (by decide), if_neg (by decide)]
    simp only [Bool.and_eq_true, decide_eq_true_eq]
    constructor
    · rintro ⟨⟨⟨g1, g2⟩, -⟩, g3, g4⟩
      exact ⟨⟨g1, g2, fun c => absurd c (by decide), fun c => absurd c (by decide), fun _ => ⟨g3, g4⟩⟩, fun c => absurd c (by decide)⟩
    · rintro ⟨⟨g1, g2, -, -, g3⟩, -⟩
      exact ⟨⟨⟨g1, g2⟩, hle⟩, (g3 trivial).1, (g3 trivial).2⟩
theorem okTr_iff (h : pf w n P A hd dy H0 hhN) (hk : ∀ s, s < n → w 17 s = 0 ∨ w 17 s = 1 ∨ w 17 s = 2) {y : gIm} (hm : mi w n nh A hd dy hhN y) {S s up led : Nat} {en : Int32} (hs : s < n) (hu : up = (svH (mvN (w 17) P) H0 n S)) (hl : led = pc (S &&& (ldB (w 17) 0 n))) : okTr y P A up S led en s = true ↔ cmn w n P A H0 S s ∧ (¬ w 17 s = 1 → en = 0) := by
  have hH : (svH (mvN (w 17) P) H0 n S) < 64 := svH_bd h.1.2.1 n S (fun s hs => by
    unfold mvN
    split
    · omega
    · exact Nat.pow_lt_pow_right (a := 2) (n := 6) (by omega) (h.2.1 s hs).1)
  obtain ⟨b1, b2, -⟩ := up_b1 (P s) (h.2.1 s hs).1 ((svH (mvN (w 17) P) H0 n S)) hH
  have hd : ¬ S / 2 ^ s % 2 = 1 ↔ ¬ tb S s := by rw [tb_div]
  unfold okTr stB thN cmn
  rw [(hm.1 s hs).1, hu, hl]
  rcases hk s hs with k | k | k <;> rw [k]
  · rw [if_pos rfl, if_pos rfl, b1]
    simp only [Bool.and_eq_true, Bool.or_eq_true, Bool.not_eq_true', Bool.and_eq_false_iff, Bool.or_eq_false_iff, decide_eq_true_eq, decide_eq_false_iff_not, hd, sub255 (h.2.2.1 s hs)]
    constructor
    · rintro ⟨⟨⟨⟨g1, g2⟩, g3⟩, g4⟩, g5⟩
      refine ⟨⟨g1, g2, fun _ => ⟨g3, ?_⟩, fun c => absurd c (by decide), fun c => absurd c (by decide)⟩, fun _ => g4.resolve_left (by decide)⟩
      rcases g5 with ⟨-, g5⟩ | g5
      · rcases g5 with g5 | g5
        · exact absurd trivial g5
        · right; omega
      · left; omega
    · rintro ⟨⟨g1, g2, g3, -, -⟩, g4⟩
      refine ⟨⟨⟨⟨g1, g2⟩, (g3 trivial).1⟩, Or.inr (g4 (by decide))⟩, ?_⟩
      rcases (g3 trivial).2 with c | c
      · right; omega
      · left; exact ⟨by decide, Or.inr (by omega)⟩
  · rw [if_neg (by decide), if_pos rfl, if_neg (by decide)]
    simp only [Bool.and_eq_true, Bool.or_eq_true, Bool.not_eq_true', Bool.and_eq_false_iff, Bool.or_eq_false_iff, decide_eq_true_eq, decide_eq_false_iff_not, hd, sub255 (h.2.2.1 s hs)]
    constructor
    · rintro ⟨⟨⟨⟨g1, g2⟩, g3⟩, g4⟩, g5⟩
      exact ⟨⟨g1, g2, fun c => absurd c (by decide), fun _ => g3, fun c => absurd c (by decide)⟩, fun c => absurd trivial c⟩
    · rintro ⟨⟨g1, g2, -, g3, -⟩, g4⟩
      exact ⟨⟨⟨⟨g1, g2⟩, g3 trivial⟩, Or.inl trivial⟩, Or.inl ⟨by decide, Or.inl (by decide)⟩⟩
  · rw [if_neg (by decide), if_neg (by decide), if_neg (by decide), b2]
    simp only [Bool.and_eq_true, Bool.or_eq_true, Bool.not_eq_true', Bool.and_eq_false_iff, Bool.or_eq_false_iff, decide_eq_true_eq, decide_eq_false_iff_not, hd, sub255 (h.2.2.1 s hs)]
    constructor
    · rintro ⟨⟨⟨⟨g1, g2⟩, g3⟩, g4⟩, g5⟩
      refine ⟨⟨g1, g2, fun c => absurd c (by decide), fun c => absurd c (by decide), fun _ => ⟨g3, ?_⟩⟩, fun _ => g4.resolve_left (by decide)⟩
      rcases g5 with ⟨g5, -⟩ | g5
      · exact absurd trivial g5
      · omega
    · rintro ⟨⟨g1, g2, -, -, g3⟩, g4⟩
      exact ⟨⟨⟨⟨g1, g2⟩, (g3 trivial).1⟩, Or.inr (g4 (by decide))⟩, Or.inr (by have := (g3 trivial).2; omega)⟩
/-- the state behind a step -/
theorem th_is (h : pf w n P A hd dy H0 hhN) (hk : ∀ s, s < n → w 17 s = 0 ∨ w 17 s = 1 ∨ w 17 s = 2) {y : gIm} (hm : mi w n nh A hd dy hhN y) {S s up led : Nat} {en : Int32} (hs : s < n) (hS : S < 2 ^ n) (hu : up = (svH (mvN (w 17) P) H0 n S)) (hl : led = pc (S &&& (ldB (w 17) 0 n))) (hc : cmn w n P A H0 S s) :
    thN y P up s = (svH (mvN (w 17) P) H0 n (S ||| 2 ^ s)) ∧ ldN y led s = pc ((S ||| 2 ^ s) &&& (ldB (w 17) 0 n)) ∧ (enN y P up en s = 0 ∨ (¬ en = 0 ∨ (w 17 s = 1 ∧ ¬ twoP w n P H0 S s))) ∧ (¬ en = 0 → ¬ enN y P up en s = 0) ∧ (w 17 s = 1 → ¬ twoP w n P H0 S s → ¬ enN y P up en s = 0) := by
  have hH : (svH (mvN (w 17) P) H0 n S) < 64 := svH_bd h.1.2.1 n S (fun s hs => by
    unfold mvN
    split
    · omega
    · exact Nat.pow_lt_pow_right (a := 2) (n := 6) (by omega) (h.2.1 s hs).1)
  obtain ⟨-, b2, -, b3, b4⟩ := up_b1 (P s) (h.2.1 s hs).1 ((svH (mvN (w 17) P) H0 n S)) hH
  have h8 := h.1.1
  have hp := n256 h8
  have l0 := ldB_lt (w 17) 0 n
  obtain ⟨c1, c2, c3, c4, c5⟩ := hc
  have eH : (svH (mvN (w 17) P) H0 n (S ||| 2 ^ s)) = (svH (mvN (w 17) P) H0 n S) ^^^ mvN (w 17) P s := by
    unfold svH
    exact sv_in (fun s t a => xor_com (mvN (w 17) P) s t a) n S s hS hs c1
  have et : w 17 s = 1 → thN y P up s = (svH (mvN (w 17) P) H0 n S) &&& (255 ^^^ 2 ^ P s) := by
    intro k
    unfold thN
    rw [(hm.1 s hs).1, hu, k, if_neg (by decide), if_pos rfl]
  refine ⟨?_, ?_, ?_, ?_, ?_⟩
  · have e0 : mvN (w 17) P s = if w 17 s = 2 then 0 else 2 ^ P s := rfl
    rw [eH, e0]
    unfold thN
    rw [(hm.1 s hs).1, hu]
    rcases hk s hs with k | k | k <;> rw [k]
    · rw [if_pos rfl, if_neg (by decide)]; exact b3 (c3 k).1
    · rw [if_neg (by decide), if_pos rfl, if_neg (by decide)]; exact b4 (c4 k)
    · rw [if_neg (by decide), if_neg (by decide), if_pos rfl, Nat.xor_zero]
  · unfold ldN
    rw [(hm.1 s hs).1, hl]
    by_cases k : w 17 s = 0
    · have e : (S ||| 2 ^ s) &&& (ldB (w 17) 0 n) = (S &&& (ldB (w 17) 0 n)) ||| 2 ^ s := by
        refine tb_ext (fun t => ?_)
        rw [tb_and, tb_or, tb_or, tb_and, tb_two]
        constructor
        · rintro ⟨g1 | g1, g2⟩
          · exact Or.inl ⟨g1, g2⟩
          · exact Or.inr g1
        · rintro (⟨g1, g2⟩ | g1)
          · exact ⟨Or.inl g1, g2⟩
          · refine ⟨Or.inr g1, ?_⟩
            rw [g1]
            exact (ldB_tb _ _ _ _).mpr ⟨hs, k⟩
      rw [if_pos k, e, pc_in s (by omega) _ (by have := and_lt (b := (ldB (w 17) 0 n)) hS; omega) (by
        cases g : (S &&& (ldB (w 17) 0 n)).testBit s with
        | false => rfl
        | true => exact absurd (tb_and.mp g).1 c1)]
    · have e : (S ||| 2 ^ s) &&& (ldB (w 17) 0 n) = S &&& (ldB (w 17) 0 n) := by
        refine tb_ext (fun t => ?_)
        rw [tb_and, tb_or, tb_and, tb_two]
        constructor
        · rintro ⟨g1 | g1, g2⟩
          · exact ⟨g1, g2⟩
          · rw [g1] at g2
            exact absurd ((ldB_tb _ _ _ _).mp g2).2 k
        · rintro ⟨g1, g2⟩
          exact ⟨Or.inl g1, g2⟩
      rw [if_neg k, e, Nat.add_zero]
  · unfold enN twoP
    rw [(hm.1 s hs).1]
    by_cases g : ¬ en = 0
    · exact Or.inr (Or.inl g)
    · by_cases k : w 17 s = 1
      · rw [et k, b2]
        by_cases t : pc ((svH (mvN (w 17) P) H0 n S) &&& 15 &&& (255 ^^^ 2 ^ P s)) < 2
        · exact Or.inr (Or.inr ⟨k, by omega⟩)
        · rw [if_neg (fun c => c.elim g (fun c => t c.2))]; exact Or.inl rfl
      · rw [if_neg (fun c => c.elim g (fun c => k c.1))]; exact Or.inl rfl
  · intro g
    unfold enN
    rw [if_pos (Or.inl g)]
    decide
  · intro k t
    unfold enN
    unfold twoP at t
    rw [(hm.1 s hs).1, et k, b2, if_pos (Or.inr ⟨k, by omega⟩)]
    decide
end MD2
