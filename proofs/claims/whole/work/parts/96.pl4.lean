/-! the planner: what the rows say -/
def qM (w : gIm) (n : Nat) (P A : Nat → Nat) (H0 S s : Nat) : Prop := s < n ∧ mayI w (ldB (w 17) 0 n) (ldB (w 17) 2 n) P A (svH (mvN (w 17) P) H0 n) S s = true
def qO (w : gIm) (n : Nat) (P A : Nat → Nat) (H0 S : Nat) : Nat := opI w n (ldB (w 17) 0 n) (ldB (w 17) 2 n) P A (svH (mvN (w 17) P) H0 n) S
def qR (w : gIm) (S : Nat) : Nat := (w 26 S).toNatClampNeg
def pf (w : gIm) (n : Nat) (P A hd dy : Nat → Nat) (H0 hhN : Nat) : Prop := (n ≤ 8 ∧ H0 < 64 ∧ w 22 13 = nI hhN ∧ hhN < 1000000) ∧ okD w n P hd dy ∧ (∀ s, s < n → A s < 256) ∧ (∀ S, S < 2 ^ n → w 24 S = nI (svA hd n S) ∧ w 25 S = nI (svX dy n S)) ∧
  w 26 (2 ^ n - 1) = 0 ∧ ∀ S, S < 2 ^ n - 1 → w 27 S = nI (qO w n P A H0 S) ∧ w 26 S = rfI w n (ldB (w 17) 0 n) (ldB (w 17) 2 n) P A (svH (mvN (w 17) P) H0 n) S (qO w n P A H0 S)
theorem sub255 {a b : Nat} (h : a < 256) : a &&& (255 ^^^ b) = 0 ↔ sub a b := by
  constructor
  · intro e i hi
    refine Classical.byContradiction (fun q => ?_)
    have h8 : i < 8 := tb_lt (n := 8) h hi
    have : tb (a &&& (255 ^^^ b)) i := by
      refine tb_and.mpr ⟨hi, ?_⟩
      unfold tb at q ⊢
      rw [Nat.testBit_xor, show (255 : Nat) = 2 ^ 8 - 1 from rfl, Nat.testBit_two_pow_sub_one]
      simp [h8, q]
    rw [e] at this
    exact tb_0 this
  · intro hs
    refine tb_ext (fun i => ⟨fun q => ?_, fun q => absurd q tb_0⟩)
    obtain ⟨q1, q2⟩ := tb_and.mp q
    have := hs i q1
    unfold tb at q2 this
    rw [Nat.testBit_xor, this, show (255 : Nat) = 2 ^ 8 - 1 from rfl, Nat.testBit_two_pow_sub_one] at q2
    have h8 : i < 8 := tb_lt (n := 8) h q1
    simp [h8] at q2
theorem tb_dif {a b i : Nat} (h : a < 256) : tb (a &&& (255 ^^^ b)) i ↔ tb a i ∧ ¬ tb b i := by
  rw [tb_and]
  constructor
  · rintro ⟨h1, h2⟩
    refine ⟨h1, fun q => ?_⟩
    unfold tb at h2 q
    rw [Nat.testBit_xor, q, show (255 : Nat) = 2 ^ 8 - 1 from rfl, Nat.testBit_two_pow_sub_one] at h2
    have h8 : i < 8 := tb_lt (n := 8) h h1
    simp [h8] at h2
  · rintro ⟨h1, h2⟩
    refine ⟨h1, ?_⟩
    have h8 : i < 8 := tb_lt (n := 8) h h1
    unfold tb at h2 ⊢
    rw [Nat.testBit_xor, show (255 : Nat) = 2 ^ 8 - 1 from rfl, Nat.testBit_two_pow_sub_one]
    simp [h8, h2]
theorem abv_tb : ∀ s, s < 8 → ∀ i, i < 8 → (256 - 2 ^ (s + 1)).testBit i = decide (s < i) := by decide
theorem otN_tb {kd : Int32} {o s i : Nat} (ho : o < 256) (hs : s < 8) : tb (otN kd o s) i ↔ kd = 2 ∧ tb o i ∧ s < i := by
  unfold otN
  by_cases h : kd = 2
  · rw [if_pos h, tb_and]
    constructor
    · rintro ⟨h1, h2⟩
      have h8 : i < 8 := tb_lt (n := 8) ho h1
      unfold tb at h2
      rw [abv_tb s hs i h8, decide_eq_true_eq] at h2
      exact ⟨h, h1, h2⟩
    · rintro ⟨-, h1, h2⟩
      have h8 : i < 8 := tb_lt (n := 8) ho h1
      refine ⟨h1, ?_⟩
      unfold tb
      rw [abv_tb s hs i h8, decide_eq_true_eq]
      exact h2
  · rw [if_neg h]
    exact ⟨fun q => absurd q tb_0, fun q => absurd q.1 h⟩
theorem least {G : Nat} (h : G ≠ 0) : ∃ s, tb G s ∧ ∀ t, tb G t → s ≤ t := by
  obtain ⟨s, hs⟩ := tb_ne h
  have : ∀ m s, s ≤ m → tb G s → ∃ s, tb G s ∧ ∀ t, tb G t → s ≤ t := by
    intro m
    induction m with
    | zero => intro s h1 h2; exact ⟨s, h2, fun t _ => by omega⟩
    | succ m ih =>
      intro s h1 h2
      by_cases q : ∃ t, t < s ∧ tb G t
      · obtain ⟨t, t1, t2⟩ := q
        exact ih t (by omega) t2
      · exact ⟨s, h2, fun t ht => Classical.byContradiction (fun g => q ⟨t, by omega, ht⟩)⟩
  exact this s s (Nat.le_refl _) hs
section QQ
variable {w : gIm} {n : Nat} {P A hd dy : Nat → Nat} {H0 hhN : Nat}
theorem n256 {n : Nat} (h : n ≤ 8) : 2 ^ n ≤ 256 := (Nat.pow_le_pow_right (n := 2) (by omega) h : 2 ^ n ≤ 2 ^ 8)
theorem qO_tb {S s : Nat} : tb (qO w n P A H0 S) s ↔ w 17 s = 2 ∧ qM w n P A H0 S s := by
  unfold qO qM
  rw [opI_tb]
  exact ⟨fun ⟨a, b, c⟩ => ⟨b, a, c⟩, fun ⟨b, a, c⟩ => ⟨a, b, c⟩⟩
theorem qO_lt {S : Nat} : qO w n P A H0 S < 2 ^ n := opI_lt _ _ _ _ _ _ _ _
theorem qM_is (h : pf w n P A hd dy H0 hhN) {S s : Nat} (g : qM w n P A H0 S s) : ¬ tb S s ∧ s < n ∧ sub (A s) S ∧ hd s ≤ hhN := by
  obtain ⟨⟨h1, h2, h3, h4⟩, h5, h6, -⟩ := h
  obtain ⟨g1, g2⟩ := g
  have g3 : mayB (w 17) P A (svH (mvN (w 17) P) H0 n) (w 20) (w 22 13) (ldB (w 17) 0 n) (ldB (w 17) 2 n) S s = true := g2
  obtain ⟨m1, m2, m3⟩ := mayB_is (h6 s g1) g3
  obtain ⟨d1, d2, d3, -⟩ := h5 s g1
  rw [d2, h3, nI_le1 (by omega) h4] at m3
  exact ⟨m1, g1, m2, m3⟩
theorem add_com (f : Nat → Nat) : ∀ s t a : Nat, a + f t + f s = a + f s + f t := fun s t a => by omega
theorem max_com (f : Nat → Nat) : ∀ s t a : Nat, max (max a (f t)) (f s) = max (max a (f s)) (f t) := fun s t a => by omega
theorem xor_com (f : Nat → Nat) : ∀ s t a : Nat, (a ^^^ f t) ^^^ f s = (a ^^^ f s) ^^^ f t := fun s t a => by rw [Nat.xor_assoc, Nat.xor_assoc, Nat.xor_comm (f t)]
theorem svA_two {f : Nat → Nat} {s : Nat} (h : s < n) : svA f n (2 ^ s) = f s := by
  unfold svA
  rw [sv_two (fun s t a => add_com f s t a) h]
  exact Nat.zero_add _
theorem svX_two {f : Nat → Nat} {s : Nat} (h : s < n) : svX f n (2 ^ s) = f s := by
  unfold svX
  rw [sv_two (fun s t a => max_com f s t a) h]
  exact Nat.zero_max _
theorem hdG_bd (h : pf w n P A hd dy H0 hhN) (G : Nat) : svA hd n G < 1000000 := by
  have := svA_bd (f := hd) (b := 60) n G (fun s hs => (h.2.1 s hs).2.2.1)
  have := h.1.1
  omega
theorem lgG_bd (h : pf w n P A hd dy H0 hhN) (G : Nat) : svX dy n G ≤ 9 := svX_bd n G (fun s hs => (h.2.1 s hs).2.2.2.2)
/-- the groups that may be done next, and what is then left -/
def qG (w : gIm) (n : Nat) (P A hd dy : Nat → Nat) (H0 hhN S c : Nat) : Prop := ∃ G, G ≠ 0 ∧ G < 2 ^ n ∧ svA hd n G ≤ hhN ∧ grp (qM w n P A H0) (qO w n P A H0) S G ∧ c = svX dy n G + qR w (S ||| G)
theorem qR_all (h : pf w n P A hd dy H0 hhN) : ∀ m S, S < 2 ^ n → 2 ^ n - S ≤ m → w 26 S = nI (qR w S) ∧ qR w S ≤ 1000000 ∧ (S ≠ 2 ^ n - 1 → mn (qR w S) (qG w n P A hd dy H0 hhN S)) := by
  have hp := n256 h.1.1
  intro m
  induction m with
  | zero => intro S h1 h2; omega
  | succ m ih =>
    intro S hS hm
    by_cases hf : S = 2 ^ n - 1
    · have e : w 26 S = nI 0 := by rw [hf, h.2.2.2.2.1]; rfl
      have e2 : qR w S = 0 := by unfold qR; rw [e, nI_cl1 (by omega)]
      rw [e2]
      exact ⟨e, by omega, fun q => absurd hf q⟩
    · obtain ⟨e27, e26⟩ := h.2.2.2.2.2 S (by omega)
      have val : ∀ s x, s < n → ¬ tb S s → sub x (qO w n P A H0 S) → w 24 (2 ^ s ||| x) = nI (svA hd n (2 ^ s ||| x)) ∧ svA hd n (2 ^ s ||| x) < 1000000 ∧ w 25 (2 ^ s ||| x) = nI (svX dy n (2 ^ s ||| x)) ∧ svX dy n (2 ^ s ||| x) ≤ 9 ∧ w 26 (S ||| (2 ^ s ||| x)) = nI (qR w (S ||| (2 ^ s ||| x))) ∧ qR w (S ||| (2 ^ s ||| x)) ≤ 1000000 := by
        intro s x hs hn hx
        have hx2 : x < 2 ^ n := lt_of_tb (fun t ht => tb_lt (qO_lt (w := w) (P := P) (A := A) (H0 := H0) (S := S)) (hx t ht))
        have hb : 2 ^ s ||| x < 2 ^ n := Nat.or_lt_two_pow (Nat.pow_lt_pow_right (by omega) hs) hx2
        have hT : S ||| (2 ^ s ||| x) < 2 ^ n := Nat.or_lt_two_pow hS hb
        have hgt : S < S ||| (2 ^ s ||| x) := or_gt hn (tb_or.mpr (Or.inl (tb_two.mpr rfl)))
        obtain ⟨i1, i2, -⟩ := ih _ hT (by omega)
        exact ⟨(h.2.2.2.1 _ hb).1, hdG_bd h _, (h.2.2.2.1 _ hb).2, lgG_bd h _, i1, i2⟩
      have otS : ∀ s, s < n → ∀ x, x &&& otN (w 17 s) (qO w n P A H0 S) s = x → sub x (qO w n P A H0 S) := by
        intro s hs x hx t ht
        exact ((otN_tb (Nat.lt_of_lt_of_le qO_lt hp) (by have := h.1.1; omega)).mp (and_sub.mp hx t ht)).2.1
      have J : ∃ r, rfI w n (ldB (w 17) 0 n) (ldB (w 17) 2 n) P A (svH (mvN (w 17) P) H0 n) S (qO w n P A H0 S) = nI r ∧ r ≤ 1000000 ∧ (∀ s, s < n → qM w n P A H0 S s → ∀ x, x &&& otN (w 17 s) (qO w n P A H0 S) s = x → svA hd n (2 ^ s ||| x) ≤ hhN → r ≤ svX dy n (2 ^ s ||| x) + qR w (S ||| (2 ^ s ||| x))) ∧
          (r = 1000000 ∨ ∃ s, s < n ∧ qM w n P A H0 S s ∧ ∃ x, x &&& otN (w 17 s) (qO w n P A H0 S) s = x ∧ svA hd n (2 ^ s ||| x) ≤ hhN ∧ r = svX dy n (2 ^ s ||| x) + qR w (S ||| (2 ^ s ||| x))) := by
        unfold rfI
        refine fo_inv (fun i a => ∃ r, a = nI r ∧ r ≤ 1000000 ∧ (∀ s, s < i → qM w n P A H0 S s → ∀ x, x &&& otN (w 17 s) (qO w n P A H0 S) s = x → svA hd n (2 ^ s ||| x) ≤ hhN → r ≤ svX dy n (2 ^ s ||| x) + qR w (S ||| (2 ^ s ||| x))) ∧
          (r = 1000000 ∨ ∃ s, s < i ∧ qM w n P A H0 S s ∧ ∃ x, x &&& otN (w 17 s) (qO w n P A H0 S) s = x ∧ svA hd n (2 ^ s ||| x) ≤ hhN ∧ r = svX dy n (2 ^ s ||| x) + qR w (S ||| (2 ^ s ||| x)))) n (fun i a hi ha => ?_) n 0 1000000 (by omega) ⟨1000000, by decide, Nat.le_refl _, fun s hs => by omega, Or.inl rfl⟩
        obtain ⟨r, r1, r2, r3, r4⟩ := ha
        unfold rfI1
        by_cases hq : mayI w (ldB (w 17) 0 n) (ldB (w 17) 2 n) P A (svH (mvN (w 17) P) H0 n) S i = true
        · have hM : qM w n P A H0 S i := ⟨hi, hq⟩
          rw [if_pos hq]
          obtain ⟨t, t1, t2, t3, t4⟩ := rgI_spec (w := w) (S := S) (b := 2 ^ i) (o := otN (w 17 i) (qO w n P A H0 S) i) (R := qR w) (otN_lt (Nat.lt_of_lt_of_le qO_lt hp)) h.1.2.2.1 h.1.2.2.2 (fun x hx => val i x hi (qM_is h hM).1 (otS i hi x hx))
          rw [r1, t1, imin_nI (by omega) (by omega)]
          refine ⟨min r t, rfl, by omega, fun s hs hm x hx hc => ?_, ?_⟩
          · by_cases q : s = i
            · subst q
              have := t3 x hx hc
              omega
            · have := r3 s (by omega) hm x hx hc
              omega
          · by_cases q : r ≤ t
            · rw [Nat.min_eq_left q]
              exact r4.imp id (fun ⟨s, s1, s2⟩ => ⟨s, by omega, s2⟩)
            · rw [Nat.min_eq_right (by omega)]
              exact t4.imp id (fun ⟨x, x1⟩ => ⟨i, by omega, hM, x, x1⟩)
        · rw [if_neg hq]
          refine ⟨r, r1, r2, fun s hs hm x hx hc => ?_, r4.imp id (fun ⟨s, s1, s2⟩ => ⟨s, by omega, s2⟩)⟩
          by_cases q : s = i
          · subst q; exact absurd hm.2 hq
          · exact r3 s (by omega) hm x hx hc
      obtain ⟨r, r1, r2, r3, r4⟩ := J
      have eR : qR w S = r := by unfold qR; rw [e26, r1, nI_clamp (by omega)]
      rw [eR]
      refine ⟨by rw [e26, r1], r2, fun _ => ⟨r2, fun c hc => ?_, ?_⟩⟩
      · obtain ⟨G, g1, g2, g3, g4, g5⟩ := hc
        rcases g4 with g4 | ⟨s, s1, s2⟩
        · obtain ⟨s, s1, s2⟩ := least g1
          have hM := (qO_tb.mp (g4 s s1))
          have hG : 2 ^ s ||| (G &&& (255 ^^^ 2 ^ s)) = G := by
            refine tb_ext (fun t => ?_)
            rw [tb_or, tb_two, tb_dif (by omega), tb_two]
            constructor
            · rintro (q | q)
              · rw [q]; exact s1
              · exact q.1
            · intro q
              by_cases e : t = s
              · exact Or.inl e
              · exact Or.inr ⟨q, e⟩
          have := r3 s hM.2.1 hM.2 (G &&& (255 ^^^ 2 ^ s)) (and_sub.mpr (fun t ht => by
            rw [tb_dif (by omega), tb_two] at ht
            refine (otN_tb (Nat.lt_of_lt_of_le qO_lt hp) (by have := hM.2.1; have := h.1.1; omega)).mpr ⟨hM.1, g4 t ht.1, ?_⟩
            have := s2 t ht.1
            omega)) (by rw [hG]; exact g3)
          rw [hG] at this
          omega
        · have := r3 s s2.1 s2 0 (Nat.zero_and _) (by rw [Nat.or_zero, ← s1]; exact g3)
          rw [Nat.or_zero, ← s1] at this
          omega
      · rcases r4 with q | ⟨s, s1, s2, x, x1, x2, x3⟩
        · exact Or.inl q
        · right
          have hx := otS s s1 x x1
          have hx2 : x < 2 ^ n := lt_of_tb (fun t ht => tb_lt (qO_lt (w := w) (P := P) (A := A) (H0 := H0) (S := S)) (hx t ht))
          refine ⟨2 ^ s ||| x, fun e => ?_, Nat.or_lt_two_pow (Nat.pow_lt_pow_right (by omega) s1) hx2, x2, ?_, x3⟩
          · have : tb (2 ^ s ||| x) s := tb_or.mpr (Or.inl (tb_two.mpr rfl))
            rw [e] at this
            exact tb_0 this
          · by_cases q : x = 0
            · right
              exact ⟨s, by rw [q, Nat.or_zero], s2⟩
            · left
              obtain ⟨t, ht⟩ := tb_ne q
              have k2 := ((otN_tb (Nat.lt_of_lt_of_le qO_lt hp) (by have := h.1.1; omega)).mp (and_sub.mp x1 t ht)).1
              intro u hu
              rcases tb_or.mp hu with hu | hu
              · rw [tb_two.mp hu]
                exact qO_tb.mpr ⟨k2, s2⟩
              · exact hx u hu
theorem pf_pl (h : pf w n P A hd dy H0 hhN) : plH n (qM w n P A H0) (fun s => w 17 s = 2) (qO w n P A H0) (svA hd n) (svX dy n) hhN (qR w) := by
  refine ⟨fun S s g => ?_, fun S s _ => qO_tb, fun S s t hS hst hs ht => ?_, fun G G' => svA_le hd n G G', fun S hS hf => (qR_all h (2 ^ n) S hS (by omega)).2.2 hf, ?_, fun s hs => ?_⟩
  · obtain ⟨m1, m2, m3, m4⟩ := qM_is h g
    exact ⟨m1, m2, by rw [svA_two m2]; exact m4⟩
  · obtain ⟨k1, s1, s2⟩ := qO_tb.mp hs
    obtain ⟨k2, t1, t2⟩ := qO_tb.mp ht
    have ms := qM_is h ⟨s1, s2⟩
    have mt := qM_is h ⟨t1, t2⟩
    refine qO_tb.mpr ⟨k1, s1, mayB_of (h.2.2.1 s s1) s2 (fun q => ?_) (fun i hi => tb_or.mpr (Or.inl hi)) k1 ?_⟩
    · rcases tb_or.mp q with q | q
      · exact ms.1 q
      · exact hst (tb_two.mp q)
    · unfold svH
      rw [sv_in (fun s t a => xor_com (mvN (w 17) P) s t a) n S t hS t1 mt.1]
      unfold mvN
      rw [if_pos k2, Nat.xor_zero]
  · unfold qR
    rw [h.2.2.2.2.1]
    rfl
  · rw [svX_two hs]
    exact (h.2.1 s hs).2.2.2.2
end QQ
