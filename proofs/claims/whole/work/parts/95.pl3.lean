/-! the planner: the fewest days that are left -/
def vis : Nat → Nat → Nat → List Nat
  | 0, _, _ => []
  | k + 1, o, g => g :: (if g = 0 then [] else vis k o ((g - 1) &&& o))
theorem vis_all : ∀ o, o < 256 → vis 256 o o = (List.range 256).reverse.filter (fun g => g &&& o == g) := by decide +kernel
theorem vis_mem {o x : Nat} (ho : o < 256) (hx : x &&& o = x) : x ∈ vis 256 o o := by
  rw [vis_all o ho, List.mem_filter, List.mem_reverse, List.mem_range]
  have : x ≤ o := by rw [← hx]; exact Nat.and_le_right
  exact ⟨by omega, by rw [hx]; exact beq_self_eq_true x⟩
theorem vis_sub {o : Nat} : ∀ k g, g &&& o = g → ∀ x, x ∈ vis k o g → x &&& o = x
  | 0, _, _, _, h => by cases h
  | k + 1, g, hg, x, h => by
    rw [vis] at h
    rcases List.mem_cons.mp h with q | q
    · rw [q]; exact hg
    · split at q
      · cases q
      · exact vis_sub k _ (by rw [Nat.and_assoc, Nat.and_self]) x q
theorem and_sub {x o : Nat} : x &&& o = x ↔ sub x o := by
  constructor
  · intro h s hs
    rw [← h, tb_and] at hs
    exact hs.2
  · intro h
    refine tb_ext (fun s => ?_)
    rw [tb_and]
    exact ⟨fun q => q.1, fun q => ⟨q, h s q⟩⟩
/-- what the search over the sets within o finds -/
theorem rgN_spec {hT lg rs : Nat → Int32} {hh : Int32} {S b o : Nat} {hdG lgG R : Nat → Nat} {hhN : Nat} (e : hh = nI hhN) (h6 : hhN < 1000000)
    (hv : ∀ x, x &&& o = x → hT (b ||| x) = nI (hdG (b ||| x)) ∧ hdG (b ||| x) < 1000000 ∧ lg (b ||| x) = nI (lgG (b ||| x)) ∧ lgG (b ||| x) ≤ 9 ∧ rs (S ||| (b ||| x)) = nI (R (S ||| (b ||| x))) ∧ R (S ||| (b ||| x)) ≤ 1000000) :
    ∀ k g l, g &&& o = g → l ≤ 1000000 → ∃ r, rgN hT lg rs hh S b o k g (nI l) = nI r ∧ r ≤ l ∧ (∀ x, x ∈ vis k o g → hdG (b ||| x) ≤ hhN → r ≤ lgG (b ||| x) + R (S ||| (b ||| x))) ∧ (r = l ∨ ∃ x, x ∈ vis k o g ∧ hdG (b ||| x) ≤ hhN ∧ r = lgG (b ||| x) + R (S ||| (b ||| x)))
  | 0, g, l, _, _ => ⟨l, rfl, Nat.le_refl _, fun x hx => (by cases hx), Or.inl rfl⟩
  | k + 1, g, l, hg, hl => by
    obtain ⟨v1, v2, v3, v4, v5, v6⟩ := hv g hg
    have hl1 : ∃ l1, (if hT (b ||| g) ≤ hh then imin (nI l) (lg (b ||| g) + rs (S ||| (b ||| g))) else nI l) = nI l1 ∧ l1 ≤ l ∧ (hdG (b ||| g) ≤ hhN → l1 ≤ lgG (b ||| g) + R (S ||| (b ||| g))) ∧ (l1 = l ∨ (hdG (b ||| g) ≤ hhN ∧ l1 = lgG (b ||| g) + R (S ||| (b ||| g)))) := by
      rw [v1, v3, v5, e, nI_add]
      by_cases q : hdG (b ||| g) ≤ hhN
      · rw [if_pos ((nI_le1 v2 h6).mpr q), imin_nI (by omega) (by omega)]
        refine ⟨_, rfl, Nat.min_le_left _ _, fun _ => Nat.min_le_right _ _, ?_⟩
        by_cases q2 : l ≤ lgG (b ||| g) + R (S ||| (b ||| g))
        · exact Or.inl (Nat.min_eq_left q2)
        · exact Or.inr ⟨q, Nat.min_eq_right (by omega)⟩
      · rw [if_neg (fun q2 => q ((nI_le1 v2 h6).mp q2))]
        exact ⟨l, rfl, Nat.le_refl _, fun q2 => absurd q2 q, Or.inl rfl⟩
    obtain ⟨l1, e1, e2, e3, e4⟩ := hl1
    rw [rgN, e1, vis]
    by_cases g0 : g = 0
    · rw [if_pos g0, if_pos g0]
      refine ⟨l1, rfl, e2, fun x hx => ?_, ?_⟩
      · have := List.mem_singleton.mp hx
        subst this
        exact e3
      · exact e4.imp id (fun q => ⟨g, List.mem_singleton.mpr rfl, q⟩)
    · rw [if_neg g0, if_neg g0]
      obtain ⟨r, r1, r2, r3, r4⟩ := rgN_spec e h6 hv k ((g - 1) &&& o) l1 (by rw [Nat.and_assoc, Nat.and_self]) (by omega)
      refine ⟨r, r1, by omega, fun x hx hc => ?_, ?_⟩
      · rcases List.mem_cons.mp hx with q | q
        · subst q
          have := e3 hc
          omega
        · exact r3 x q hc
      · rcases r4 with q | ⟨x, q1, q2⟩
        · rcases e4 with q2 | q2
          · exact Or.inl (by omega)
          · exact Or.inr ⟨g, List.mem_cons_self, q2.1, by omega⟩
        · exact Or.inr ⟨x, List.mem_cons_of_mem _ q1, q2⟩
theorem rgI_spec {w : gIm} {S b o : Nat} {hdG lgG R : Nat → Nat} {hhN : Nat} (ho : o < 256) (e : w 22 13 = nI hhN) (h6 : hhN < 1000000)
    (hv : ∀ x, x &&& o = x → w 24 (b ||| x) = nI (hdG (b ||| x)) ∧ hdG (b ||| x) < 1000000 ∧ w 25 (b ||| x) = nI (lgG (b ||| x)) ∧ lgG (b ||| x) ≤ 9 ∧ w 26 (S ||| (b ||| x)) = nI (R (S ||| (b ||| x))) ∧ R (S ||| (b ||| x)) ≤ 1000000) :
    ∃ r, rgI w S b o = nI r ∧ r ≤ 1000000 ∧ (∀ x, x &&& o = x → hdG (b ||| x) ≤ hhN → r ≤ lgG (b ||| x) + R (S ||| (b ||| x))) ∧ (r = 1000000 ∨ ∃ x, x &&& o = x ∧ hdG (b ||| x) ≤ hhN ∧ r = lgG (b ||| x) + R (S ||| (b ||| x))) := by
  obtain ⟨r, r1, r2, r3, r4⟩ := rgN_spec (b := b) e h6 hv 256 o 1000000 (Nat.and_self o) (Nat.le_refl _)
  refine ⟨r, r1, r2, fun x hx => r3 x (vis_mem ho hx), ?_⟩
  rcases r4 with q | ⟨x, q1, q2⟩
  · exact Or.inl q
  · exact Or.inr ⟨x, vis_sub 256 o (Nat.and_self o) x q1, q2⟩
theorem rgN_congr {hT lg rs rs' : Nat → Int32} {hh : Int32} {S b o : Nat} (h : ∀ x, rs (S ||| (b ||| x)) = rs' (S ||| (b ||| x))) : ∀ k g l, rgN hT lg rs hh S b o k g l = rgN hT lg rs' hh S b o k g l
  | 0, _, _ => rfl
  | k + 1, g, l => by rw [rgN, rgN, h g, rgN_congr h k]
/-- mayB says -/
theorem mayB_is {kd : Nat → Int32} {P A H : Nat → Nat} {hd : Nat → Int32} {hh : Int32} {ld tn S s : Nat} (hA : A s < 256) (h : mayB kd P A H hd hh ld tn S s = true) : ¬ tb S s ∧ sub (A s) S ∧ hd s ≤ hh := by
  unfold mayB at h
  rw [Bool.and_eq_true, Bool.and_eq_true, Bool.and_eq_true, decide_eq_true_eq, decide_eq_true_eq, decide_eq_true_eq] at h
  refine ⟨fun q => ?_, fun i hi => ?_, h.1.2⟩
  · have : tb (S &&& 2 ^ s) s := tb_and.mpr ⟨q, tb_two.mpr rfl⟩
    rw [h.1.1.1] at this
    exact tb_0 this
  · refine Classical.byContradiction (fun q => ?_)
    have h8 : i < 8 := tb_lt (n := 8) hA hi
    have : tb (A s &&& (255 ^^^ S)) i := by
      refine tb_and.mpr ⟨hi, ?_⟩
      unfold tb at q ⊢
      rw [Nat.testBit_xor, show (255 : Nat) = 2 ^ 8 - 1 from rfl, Nat.testBit_two_pow_sub_one]
      simp [h8, q]
    rw [h.1.1.2] at this
    exact tb_0 this
theorem mayB_of {kd : Nat → Int32} {P A H : Nat → Nat} {hd : Nat → Int32} {hh : Int32} {ld tn S T s : Nat} (hA : A s < 256) (h : mayB kd P A H hd hh ld tn S s = true) (hT : ¬ tb T s) (hs : sub S T) (h2 : kd s = 2) (hH : H T = H S) : mayB kd P A H hd hh ld tn T s = true := by
  obtain ⟨g1, g2, g3⟩ := mayB_is hA h
  unfold mayB hasB twoB at h ⊢
  rw [Bool.and_eq_true, Bool.and_eq_true, Bool.and_eq_true, decide_eq_true_eq, decide_eq_true_eq, decide_eq_true_eq] at h ⊢
  have h3 := h.2
  rw [h2, if_neg (by decide), if_neg (by decide)] at h3
  rw [h2, if_neg (by decide), if_neg (by decide), hH]
  refine ⟨⟨⟨?_, ?_⟩, h.1.2⟩, ?_⟩
  · refine tb_ext (fun i => ⟨fun q => ?_, fun q => absurd q tb_0⟩)
    obtain ⟨q1, q2⟩ := tb_and.mp q
    rw [tb_two.mp q2] at q1
    exact absurd q1 hT
  · refine tb_ext (fun i => ⟨fun q => ?_, fun q => absurd q tb_0⟩)
    obtain ⟨q1, q2⟩ := tb_and.mp q
    have := hs i (g2 i q1)
    unfold tb at q2 this
    rw [Nat.testBit_xor, this, show (255 : Nat) = 2 ^ 8 - 1 from rfl, Nat.testBit_two_pow_sub_one] at q2
    have h8 : i < 8 := tb_lt (n := 8) hA q1
    simp [h8] at q2
  · exact h3
theorem opI_tb (ι : gIm) (n ld tn : Nat) (P A H : Nat → Nat) (S s : Nat) : tb (opI ι n ld tn P A H S) s ↔ s < n ∧ ι 17 s = 2 ∧ mayI ι ld tn P A H S s = true := by
  have h : ∀ m, tb (fo (opI1 ι ld tn P A H S) m 0 0) s ↔ s < m ∧ ι 17 s = 2 ∧ mayI ι ld tn P A H S s = true := by
    intro m
    induction m with
    | zero => exact ⟨fun q => absurd q tb_0, fun q => absurd q.1 (by omega)⟩
    | succ m ih =>
      rw [fo_last, Nat.zero_add]
      show tb (fo (opI1 ι ld tn P A H S) m 0 0 ||| (if ι 17 m = 2 ∧ mayI ι ld tn P A H S m = true then 2 ^ m else 0)) s ↔ _
      rw [tb_or, ih]
      by_cases q : ι 17 m = 2 ∧ mayI ι ld tn P A H S m = true
      · rw [if_pos q, tb_two]
        constructor
        · rintro (g | g)
          · exact ⟨by omega, g.2⟩
          · subst g; exact ⟨by omega, q⟩
        · rintro ⟨g1, g2⟩
          by_cases e : s = m
          · exact Or.inr e
          · exact Or.inl ⟨by omega, g2⟩
      · rw [if_neg q]
        constructor
        · rintro (g | g)
          · exact ⟨by omega, g.2⟩
          · exact absurd g tb_0
        · rintro ⟨g1, g2⟩
          by_cases e : s = m
          · subst e; exact absurd g2 q
          · exact Or.inl ⟨by omega, g2⟩
  exact h n
theorem or_gt {S x s : Nat} (h : ¬ tb S s) (hx : tb x s) : S < S ||| x := by
  have h1 : S ≤ S ||| x := Nat.left_le_or
  have h2 : S ≠ S ||| x := fun e => h (by rw [e]; exact tb_or.mpr (Or.inr hx))
  omega
/-- memories that the planner reads alike, 26 and 27 aside -/
def sameP (z y : gIm) : Prop := z 17 = y 17 ∧ z 20 = y 20 ∧ z 22 = y 22 ∧ z 24 = y 24 ∧ z 25 = y 25
theorem mayI_same {z y : gIm} (h : sameP z y) (ld tn : Nat) (P A H : Nat → Nat) (S s : Nat) : mayI z ld tn P A H S s = mayI y ld tn P A H S s := by
  unfold mayI
  rw [h.1, h.2.1, h.2.2.1]
theorem opI_same {z y : gIm} (h : sameP z y) (n ld tn : Nat) (P A H : Nat → Nat) (S : Nat) : opI z n ld tn P A H S = opI y n ld tn P A H S := by
  unfold opI opI1
  refine fo_congr _ _ _ (fun s a _ _ => ?_)
  rw [mayI_same h, h.1]
theorem rfI_same {z y : gIm} (h : sameP z y) {n ld tn : Nat} {P A H : Nat → Nat} {S : Nat} (hA : ∀ s, s < n → A s < 256) (h26 : ∀ T, S < T → z 26 T = y 26 T) (o : Nat) : rfI z n ld tn P A H S o = rfI y n ld tn P A H S o := by
  unfold rfI
  refine fo_congr _ _ _ (fun s a _ hs => ?_)
  unfold rfI1
  rw [mayI_same h, h.1]
  split
  · rename_i hm
    have hm' : mayB (y 17) P A H (y 20) (y 22 13) ld tn S s = true := hm
    have e : rgI z S (2 ^ s) (otN (y 17 s) o s) = rgI y S (2 ^ s) (otN (y 17 s) o s) := by
      unfold rgI
      rw [h.2.2.2.1, h.2.2.2.2, h.2.2.1]
      exact rgN_congr (fun x => h26 _ (or_gt (mayB_is (hA s (by omega)) hm').1 (tb_or.mpr (Or.inl (tb_two.mpr rfl))))) _ _ _
    rw [e]
  · rfl
/-- what measureRests leaves -/
theorem me_spec {y : gIm} {n ld tn : Nat} {P A H : Nat → Nat} (hA : ∀ s, s < n → A s < 256) : ∀ k z, sameP z y → sameP (xMeN n ld tn P A H k z) y ∧ (∀ S, k ≤ S → xMeN n ld tn P A H k z 26 S = z 26 S ∧ xMeN n ld tn P A H k z 27 S = z 27 S) ∧
    ∀ S, S < k → xMeN n ld tn P A H k z 27 S = nI (opI y n ld tn P A H S) ∧ xMeN n ld tn P A H k z 26 S = rfI (xMeN n ld tn P A H k z) n ld tn P A H S (opI y n ld tn P A H S) := by
  intro k
  induction k with
  | zero => intro z h; exact ⟨h, fun S _ => ⟨rfl, rfl⟩, fun S hS => by omega⟩
  | succ k ih =>
    intro z h
    have g26 : ∀ i, xMe1 n ld tn P A H k z 26 i = if i = k then rfI (up2 z 27 k (nI (opI z n ld tn P A H k))) n ld tn P A H k (opI z n ld tn P A H k) else z 26 i := by
      intro i
      unfold xMe1
      rw [up2_get, up2_ne _ _ _ (show 26 ≠ 27 by decide)]
      by_cases q : i = k
      · rw [if_pos ⟨rfl, q⟩, if_pos q]
      · rw [if_neg (fun g => q g.2), if_neg q]
    have g27 : ∀ i, xMe1 n ld tn P A H k z 27 i = if i = k then nI (opI z n ld tn P A H k) else z 27 i := by
      intro i
      unfold xMe1
      rw [up2_get, if_neg (by omega), up2_get]
      by_cases q : i = k
      · rw [if_pos ⟨rfl, q⟩, if_pos q]
      · rw [if_neg (fun g => q g.2), if_neg q]
    have h1 : sameP (xMe1 n ld tn P A H k z) y := by
      have e : ∀ c, c ≠ 26 → c ≠ 27 → xMe1 n ld tn P A H k z c = z c := fun c a b => xMe1_ne a b
      unfold sameP
      rw [e 17 (by decide) (by decide), e 20 (by decide) (by decide), e 22 (by decide) (by decide), e 24 (by decide) (by decide), e 25 (by decide) (by decide)]
      exact h
    obtain ⟨i1, i2, i3⟩ := ih _ h1
    rw [xMeN]
    refine ⟨i1, fun S hS => ?_, fun S hS => ?_⟩
    · obtain ⟨j1, j2⟩ := i2 S (by omega)
      rw [j1, j2, g26, g27, if_neg (by omega), if_neg (by omega)]
      exact ⟨rfl, rfl⟩
    · by_cases q : S < k
      · exact i3 S q
      · have e : S = k := by omega
        subst e
        obtain ⟨j1, j2⟩ := i2 S (Nat.le_refl _)
        rw [j1, j2, g26, g27, if_pos rfl, if_pos rfl, opI_same h]
        refine ⟨rfl, rfI_same ?_ hA (fun T hT => ?_) _⟩
        · have h2 : sameP (up2 z 27 S (nI (opI y n ld tn P A H S))) y := by
            unfold sameP
            rw [up2_ne _ _ _ (by decide), up2_ne _ _ _ (by decide), up2_ne _ _ _ (by decide), up2_ne _ _ _ (by decide), up2_ne _ _ _ (by decide)]
            exact h
          exact ⟨h2.1.trans i1.1.symm, h2.2.1.trans i1.2.1.symm, h2.2.2.1.trans i1.2.2.1.symm, h2.2.2.2.1.trans i1.2.2.2.1.symm, h2.2.2.2.2.trans i1.2.2.2.2.symm⟩
        · rw [(i2 T (by omega)).1, g26, if_neg (by omega), up2_ne _ _ _ (by decide)]
