/-! the planner: rows and groups, without a memory -/
def tb (S s : Nat) : Prop := S.testBit s = true
theorem tb_or {S T s : Nat} : tb (S ||| T) s ↔ tb S s ∨ tb T s := by unfold tb; rw [Nat.testBit_or, Bool.or_eq_true]
theorem tb_and {S T s : Nat} : tb (S &&& T) s ↔ tb S s ∧ tb T s := by unfold tb; rw [Nat.testBit_and, Bool.and_eq_true]
theorem tb_two {s t : Nat} : tb (2 ^ s) t ↔ t = s := by
  unfold tb
  rw [Nat.testBit_two_pow]
  simp [eq_comm]
theorem tb_0 {s : Nat} : ¬ tb 0 s := by unfold tb; simp
theorem tb_ext {S T : Nat} (h : ∀ s, tb S s ↔ tb T s) : S = T := Nat.eq_of_testBit_eq (fun i => by
  have := h i
  unfold tb at this
  cases h1 : S.testBit i <;> cases h2 : T.testBit i <;> simp [h1, h2] at this ⊢)
theorem tb_lt {S n s : Nat} (h : S < 2 ^ n) (hs : tb S s) : s < n := by
  rcases Nat.lt_or_ge s n with g | g
  · exact g
  · have := Nat.testBit_lt_two_pow (Nat.lt_of_lt_of_le h (Nat.pow_le_pow_right (by omega) g) : S < 2 ^ s)
    unfold tb at hs
    rw [this] at hs
    cases hs
theorem tb_full {n s : Nat} : tb (2 ^ n - 1) s ↔ s < n := by
  unfold tb
  rw [Nat.testBit_two_pow_sub_one]
  simp
theorem tb_ne {S : Nat} (h : S ≠ 0) : ∃ s, tb S s := Nat.exists_testBit_of_ne_zero h
theorem lt_of_tb {S n : Nat} (h : ∀ s, tb S s → s < n) : S < 2 ^ n := Nat.lt_pow_two_of_testBit _ (fun i hi => by
  cases g : S.testBit i with
  | false => rfl
  | true => exact absurd (h i g) (by omega))
def sub (A B : Nat) : Prop := ∀ s, tb A s → tb B s
/-- the least of costs, at most 1000000 -/
def mn (v : Nat) (C : Nat → Prop) : Prop := v ≤ 1000000 ∧ (∀ c, C c → v ≤ c) ∧ (v = 1000000 ∨ C v)
theorem mn_eq {v w : Nat} {C : Nat → Prop} (h : mn v C) (h2 : mn w C) : v = w := by
  have a : v ≤ w := by
    rcases h2.2.2 with g | g
    · rw [g]; exact h.1
    · exact h.2.1 _ g
  have b : w ≤ v := by
    rcases h.2.2 with g | g
    · rw [g]; exact h2.1
    · exact h2.2.1 _ g
  omega
def grp (may : Nat → Nat → Prop) (op : Nat → Nat) (S G : Nat) : Prop := sub G (op S) ∨ ∃ s, G = 2 ^ s ∧ may S s
/-- what the planner knows of sets -/
def plH (n : Nat) (may : Nat → Nat → Prop) (tune : Nat → Prop) (op hdG lgG : Nat → Nat) (hh : Nat) (R : Nat → Nat) : Prop :=
  (∀ S s, may S s → ¬ tb S s ∧ s < n ∧ hdG (2 ^ s) ≤ hh) ∧
  (∀ S s, S < 2 ^ n → (tb (op S) s ↔ tune s ∧ may S s)) ∧
  (∀ S s t, S < 2 ^ n → s ≠ t → tb (op S) s → tb (op S) t → tb (op (S ||| 2 ^ t)) s) ∧
  (∀ G G', sub G G' → G' < 2 ^ n → hdG G ≤ hdG G') ∧
  (∀ S, S < 2 ^ n → S ≠ 2 ^ n - 1 → mn (R S) (fun c => ∃ G, G ≠ 0 ∧ G < 2 ^ n ∧ hdG G ≤ hh ∧ grp may op S G ∧ c = lgG G + R (S ||| G))) ∧
  R (2 ^ n - 1) = 0 ∧ (∀ s, s < n → lgG (2 ^ s) ≤ 9)
/-- the steps of the row from f on, l of them -/
def GS (p : Nat → Nat) : Nat → Nat → Nat
  | 0, _ => 0
  | l + 1, f => GS p l (f + 1) ||| 2 ^ p f
theorem GS_tb {p : Nat → Nat} : ∀ l f s, tb (GS p l f) s ↔ ∃ i, f ≤ i ∧ i < f + l ∧ p i = s
  | 0, f, s => ⟨fun h => absurd h tb_0, fun ⟨i, h1, h2, _⟩ => by omega⟩
  | l + 1, f, s => by
    rw [GS, tb_or, GS_tb l (f + 1) s, tb_two]
    constructor
    · rintro (⟨i, h1, h2, h3⟩ | h)
      · exact ⟨i, by omega, by omega, h3⟩
      · exact ⟨f, Nat.le_refl _, by omega, h.symm⟩
    · rintro ⟨i, h1, h2, h3⟩
      by_cases g : i = f
      · subst g; exact Or.inr h3.symm
      · exact Or.inl ⟨i, by omega, by omega, h3⟩
def spC (op hdG lgG : Nat → Nat) (hh : Nat) (p dn sp : Nat → Nat) (k c : Nat) : Prop := ∃ f, f < k ∧ (f + 1 = k ∨ sub (GS p (k - f) f) (op (dn f))) ∧ hdG (GS p (k - f) f) ≤ hh ∧ c = sp f + lgG (GS p (k - f) f)
def gd (may : Nat → Nat → Prop) (op hdG lgG : Nat → Nat) (hh : Nat) (p dn sp : Nat → Nat) (k : Nat) : Prop :=
  dn 0 = 0 ∧ sp 0 = 0 ∧ (∀ j, j < k → may (dn j) (p j) ∧ dn (j + 1) = dn j ||| 2 ^ p j) ∧ ∀ j, 0 < j → j ≤ k → (∀ c, spC op hdG lgG hh p dn sp j c → sp j ≤ c) ∧ spC op hdG lgG hh p dn sp j (sp j)
def CD (n : Nat) (op hdG lgG : Nat → Nat) (hh : Nat) (R : Nat → Nat) (p dn sp : Nat → Nat) (k c : Nat) : Prop := (k = 0 ∧ c = R 0) ∨ ∃ f G, f < k ∧ sub (GS p (k - f) f) G ∧ G < 2 ^ n ∧ (sub G (op (dn f)) ∨ (f + 1 = k ∧ G = 2 ^ p f)) ∧ hdG G ≤ hh ∧ c = sp f + lgG G + R (dn f ||| G)
def pup (p : Nat → Nat) (k s : Nat) : Nat → Nat := fun j => if j = k then s else p j
section PL
variable {n : Nat} {may : Nat → Nat → Prop} {tune : Nat → Prop} {op hdG lgG R : Nat → Nat} {hh : Nat} {p dn sp : Nat → Nat} {k : Nat}
theorem dn_tb (g : gd may op hdG lgG hh p dn sp k) : ∀ j, j ≤ k → ∀ s, tb (dn j) s ↔ ∃ i, i < j ∧ p i = s := by
  intro j
  induction j with
  | zero =>
    intro _ s
    rw [g.1]
    exact ⟨fun h => absurd h tb_0, fun ⟨i, h1, _⟩ => by omega⟩
  | succ j ih =>
    intro hj s
    rw [(g.2.2.1 j (by omega)).2, tb_or, ih (by omega) s, tb_two]
    constructor
    · rintro (⟨i, h1, h2⟩ | h)
      · exact ⟨i, by omega, h2⟩
      · exact ⟨j, by omega, h.symm⟩
    · rintro ⟨i, h1, h2⟩
      by_cases q : i = j
      · subst q; exact Or.inr h2.symm
      · exact Or.inl ⟨i, by omega, h2⟩
theorem dn_lt (H : plH n may tune op hdG lgG hh R) (g : gd may op hdG lgG hh p dn sp k) {j : Nat} (hj : j ≤ k) : dn j < 2 ^ n :=
  lt_of_tb (fun s hs => by
    obtain ⟨i, h1, h2⟩ := (dn_tb g j hj s).mp hs
    rw [← h2]
    exact (H.1 _ _ (g.2.2.1 i (by omega)).1).2.1)
theorem p_ne (H : plH n may tune op hdG lgG hh R) (g : gd may op hdG lgG hh p dn sp k) {i j : Nat} (hij : i < j) (hj : j < k) : p i ≠ p j := by
  intro e
  exact (H.1 _ _ (g.2.2.1 j hj).1).1 ((dn_tb g j (by omega) _).mpr ⟨i, hij, e⟩)
theorem dn_GS (g : gd may op hdG lgG hh p dn sp k) {f : Nat} (hf : f ≤ k) : dn f ||| GS p (k - f) f = dn k := by
  refine tb_ext (fun s => ?_)
  rw [tb_or, dn_tb g f hf, dn_tb g k (Nat.le_refl _), GS_tb]
  constructor
  · rintro (⟨i, h1, h2⟩ | ⟨i, h1, h2, h3⟩)
    · exact ⟨i, by omega, h2⟩
    · exact ⟨i, by omega, h3⟩
  · rintro ⟨i, h1, h2⟩
    by_cases q : i < f
    · exact Or.inl ⟨i, q, h2⟩
    · exact Or.inr ⟨i, by omega, by omega, h2⟩
theorem GS_lt (H : plH n may tune op hdG lgG hh R) (g : gd may op hdG lgG hh p dn sp k) {f : Nat} (hf : f ≤ k) : GS p (k - f) f < 2 ^ n :=
  lt_of_tb (fun s hs => by
    obtain ⟨i, h1, h2, h3⟩ := (GS_tb _ _ _).mp hs
    rw [← h3]
    exact (H.1 _ _ (g.2.2.1 i (by omega)).1).2.1)
/-- what is open stays open while others that are open are done -/
theorem pers (H : plH n may tune op hdG lgG hh R) (g : gd may op hdG lgG hh p dn sp k) {f : Nat} : ∀ l, f + l ≤ k → (∀ i, f ≤ i → i < f + l → tb (op (dn f)) (p i)) → ∀ s, tb (op (dn f)) s → (∀ i, f ≤ i → i < f + l → p i ≠ s) → tb (op (dn (f + l))) s := by
  intro l
  induction l with
  | zero => intro _ _ s hs _; exact hs
  | succ l ih =>
    intro hl hG s hs hne
    have h1 := ih (by omega) (fun i a b => hG i a (by omega)) s hs (fun i a b => hne i a (by omega))
    have h2 := ih (by omega) (fun i a b => hG i a (by omega)) (p (f + l)) (hG _ (by omega) (by omega)) (fun i a b => p_ne H g b (by omega))
    rw [show f + (l + 1) = f + l + 1 by omega, (g.2.2.1 (f + l) (by omega)).2]
    exact H.2.2.1 _ _ _ (dn_lt H g (by omega)) (fun e => hne (f + l) (by omega) (by omega) e.symm) h1 h2
theorem GS_pup (s : Nat) : ∀ l f, f + l ≤ k → GS (pup p k s) l f = GS p l f
  | 0, _, _ => rfl
  | l + 1, f, h => by
    rw [GS, GS, GS_pup s l (f + 1) (by omega)]
    unfold pup
    rw [if_neg (by omega)]
theorem CD_on (H : plH n may tune op hdG lgG hh R) (g : gd may op hdG lgG hh p dn sp k) (hk : dn k ≠ 2 ^ n - 1) (c : Nat) (hc : c < 1000000) (h : CD n op hdG lgG hh R p dn sp k c) : ∃ s, may (dn k) s ∧ ∃ c', c' ≤ c ∧ CD n op hdG lgG hh R (pup p k s) dn sp (k + 1) c' := by
  have top : ∀ c0, c0 + R (dn k) ≤ c → sp k ≤ c0 → ∃ s, may (dn k) s ∧ ∃ c', c' ≤ c ∧ CD n op hdG lgG hh R (pup p k s) dn sp (k + 1) c' := by
    intro c0 h1 h2
    obtain ⟨r1, r2, r3⟩ := H.2.2.2.2.1 (dn k) (dn_lt H g (Nat.le_refl _)) hk
    rcases r3 with r3 | ⟨G, g1, g2, g3, g4, g5⟩
    · omega
    · have pick : ∀ s, tb G s → may (dn k) s → ∃ s, may (dn k) s ∧ ∃ c', c' ≤ c ∧ CD n op hdG lgG hh R (pup p k s) dn sp (k + 1) c' := by
        intro s hs hm
        refine ⟨s, hm, sp k + lgG G + R (dn k ||| G), by omega, Or.inr ⟨k, G, by omega, ?_, g2, ?_, g3, rfl⟩⟩
        · intro t ht
          obtain ⟨i, i1, i2, i3⟩ := (GS_tb _ _ _).mp ht
          have : i = k := by omega
          subst this
          unfold pup at i3
          rw [if_pos rfl] at i3
          rw [← i3]; exact hs
        · rcases g4 with g4 | ⟨t, t1, t2⟩
          · exact Or.inl g4
          · refine Or.inr ⟨rfl, ?_⟩
            unfold pup
            rw [if_pos rfl]
            rw [t1] at hs ⊢
            rw [tb_two.mp hs]
      rcases g4 with g4 | ⟨t, t1, t2⟩
      · obtain ⟨s, hs⟩ := tb_ne g1
        exact pick s hs ((H.2.1 _ s (dn_lt H g (Nat.le_refl _))).mp (g4 s hs)).2
      · exact pick t (by rw [t1]; exact tb_two.mpr rfl) t2
  rcases h with ⟨h1, h2⟩ | ⟨f, G, f1, f2, f3, f4, f5, f6⟩
  · refine top 0 ?_ ?_
    · rw [h1, g.1]; omega
    · rw [h1, g.2.1]; exact Nat.le_refl _
  · by_cases hG : ∃ s, tb G s ∧ ¬ tb (GS p (k - f) f) s
    · obtain ⟨s, s1, s2⟩ := hG
      have hop : sub G (op (dn f)) := by
        rcases f4 with q | ⟨q1, q2⟩
        · exact q
        · exfalso
          apply s2
          rw [q2] at s1
          exact (GS_tb _ _ _).mpr ⟨f, Nat.le_refl _, by omega, (tb_two.mp s1).symm⟩
      have hs := pers H g (f := f) (k - f) (by omega) (fun i a b => hop _ (f2 _ ((GS_tb _ _ _).mpr ⟨i, a, b, rfl⟩))) s (hop s s1) (fun i a b e => s2 ((GS_tb _ _ _).mpr ⟨i, a, b, e⟩))
      rw [show f + (k - f) = k by omega] at hs
      refine ⟨s, ((H.2.1 _ s (dn_lt H g (Nat.le_refl _))).mp hs).2, c, Nat.le_refl _, Or.inr ⟨f, G, by omega, ?_, f3, Or.inl hop, f5, f6⟩⟩
      intro t ht
      obtain ⟨i, i1, i2, i3⟩ := (GS_tb _ _ _).mp ht
      unfold pup at i3
      by_cases q : i = k
      · rw [if_pos q] at i3
        rw [← i3]; exact s1
      · rw [if_neg q] at i3
        exact f2 t ((GS_tb _ _ _).mpr ⟨i, i1, by omega, i3⟩)
    · have e : G = GS p (k - f) f := tb_ext (fun s => ⟨fun q => Classical.byContradiction (fun q2 => hG ⟨s, q, q2⟩), f2 s⟩)
      have hsp := (g.2.2.2 k (by omega) (Nat.le_refl _)).1 (sp f + lgG G) ⟨f, f1, by
        rcases f4 with q | q
        · right; rw [← e]; exact q
        · exact Or.inl q.1, by rw [← e]; exact f5, by rw [← e]⟩
      refine top (sp f + lgG G) ?_ hsp
      rw [f6, e, dn_GS g (by omega)]
      exact Nat.le_refl _
theorem CD_back (H : plH n may tune op hdG lgG hh R) (g : gd may op hdG lgG hh p dn sp k) (s : Nat) (hs : may (dn k) s) (c : Nat) (h : CD n op hdG lgG hh R (pup p k s) dn sp (k + 1) c) : ∃ c', c' ≤ c ∧ CD n op hdG lgG hh R p dn sp k c' := by
  obtain ⟨m1, m2, m3⟩ := H.1 _ _ hs
  have hk : dn k ≠ 2 ^ n - 1 := fun e => m1 (by rw [e]; exact tb_full.mpr m2)
  rcases h with ⟨h1, -⟩ | ⟨f, G, f1, f2, f3, f4, f5, f6⟩
  · omega
  · by_cases q : f = k
    · subst q
      have hsG : tb G s := f2 s ((GS_tb _ _ _).mpr ⟨f, Nat.le_refl _, by omega, by unfold pup; rw [if_pos rfl]⟩)
      have hr := (H.2.2.2.2.1 (dn f) (dn_lt H g (Nat.le_refl _)) hk).2.1 (lgG G + R (dn f ||| G)) ⟨G, fun e => tb_0 (by rw [e] at hsG; exact hsG), f3, f5, by
        rcases f4 with q | ⟨-, q⟩
        · exact Or.inl q
        · right
          unfold pup at q
          rw [if_pos rfl] at q
          exact ⟨s, q, hs⟩, rfl⟩
      by_cases q0 : f = 0
      · subst q0
        rw [g.1] at hr f6
        exact ⟨R 0, by omega, Or.inl ⟨rfl, rfl⟩⟩
      · obtain ⟨f0, e1, e2, e3, e4⟩ := (g.2.2.2 f (by omega) (Nat.le_refl _)).2
        refine ⟨sp f + R (dn f), by omega, Or.inr ⟨f0, GS p (f - f0) f0, e1, fun _ q => q, GS_lt H g (by omega), ?_, e3, ?_⟩⟩
        · by_cases q1 : f0 + 1 = f
          · refine Or.inr ⟨q1, ?_⟩
            rw [show f - f0 = 1 by omega, GS, GS]
            exact Nat.zero_or _
          · exact Or.inl (e2.resolve_left q1)
        · rw [dn_GS g (by omega), ← e4]
    · have hop : sub G (op (dn f)) := by
        rcases f4 with q2 | ⟨q2, -⟩
        · exact q2
        · omega
      refine ⟨c, Nat.le_refl _, Or.inr ⟨f, G, by omega, fun t ht => f2 t ?_, f3, Or.inl hop, f5, f6⟩⟩
      obtain ⟨i, i1, i2, i3⟩ := (GS_tb _ _ _).mp ht
      refine (GS_tb _ _ _).mpr ⟨i, i1, by omega, ?_⟩
      unfold pup
      rw [if_neg (by omega)]; exact i3
/-- the least behind a row is the least behind its next steps -/
theorem CD_step (H : plH n may tune op hdG lgG hh R) (g : gd may op hdG lgG hh p dn sp k) (hk : dn k ≠ 2 ^ n - 1) (v : Nat) (vs : Nat → Nat) (hv : v ≤ 1000000) (h1 : ∀ s, may (dn k) s → v ≤ vs s) (h2 : v = 1000000 ∨ ∃ s, may (dn k) s ∧ v = vs s) (hm : ∀ s, may (dn k) s → mn (vs s) (CD n op hdG lgG hh R (pup p k s) dn sp (k + 1))) : mn v (CD n op hdG lgG hh R p dn sp k) := by
  have le : ∀ c, CD n op hdG lgG hh R p dn sp k c → v ≤ c := by
    intro c hc
    by_cases q : c < 1000000
    · obtain ⟨s, s1, c', c1, c2⟩ := CD_on H g hk c q hc
      have a := h1 s s1
      have b := (hm s s1).2.1 c' c2
      omega
    · omega
  refine ⟨hv, le, ?_⟩
  rcases h2 with q | ⟨s, s1, s2⟩
  · exact Or.inl q
  · rcases (hm s s1).2.2 with q | q
    · left; omega
    · right
      rw [← s2] at q
      obtain ⟨c', c1, c2⟩ := CD_back H g s s1 v q
      have := le c' c2
      rw [show v = c' by omega]; exact c2
theorem sp_le (H : plH n may tune op hdG lgG hh R) (g : gd may op hdG lgG hh p dn sp k) : ∀ j, j ≤ k → sp j ≤ 9 * j := by
  intro j
  induction j with
  | zero => intro _; rw [g.2.1]; omega
  | succ j ih =>
    intro hj
    obtain ⟨m1, m2, m3⟩ := H.1 _ _ (g.2.2.1 j (by omega)).1
    have e : GS p (j + 1 - j) j = 2 ^ p j := by
      rw [show j + 1 - j = 1 by omega, GS, GS]
      exact Nat.zero_or _
    have := (g.2.2.2 (j + 1) (by omega) hj).1 (sp j + lgG (GS p (j + 1 - j) j)) ⟨j, by omega, Or.inl rfl, by rw [e]; exact m3, rfl⟩
    rw [e] at this
    have h9 := H.2.2.2.2.2.2 _ m2
    have := ih (by omega)
    omega
/-- at the end of the row -/
theorem CD_end (H : plH n may tune op hdG lgG hh R) (g : gd may op hdG lgG hh p dn sp k) (hk : dn k = 2 ^ n - 1) (hk9 : k ≤ 1000) : mn (sp k) (CD n op hdG lgG hh R p dn sp k) := by
  have hle := sp_le H g k (Nat.le_refl _)
  have hR := H.2.2.2.2.2.1
  refine ⟨by omega, fun c hc => ?_, Or.inr ?_⟩
  · rcases hc with ⟨h1, h2⟩ | ⟨f, G, f1, f2, f3, f4, f5, f6⟩
    · rw [h1, g.2.1]; omega
    · have e : G = GS p (k - f) f := tb_ext (fun s => ⟨fun q => by
        have hs : tb (dn k) s := by rw [hk]; exact tb_full.mpr (tb_lt f3 q)
        rw [← dn_GS g (show f ≤ k by omega), tb_or] at hs
        rcases hs with hs | hs
        · exfalso
          rcases f4 with q2 | ⟨q2, q3⟩
          · exact (H.1 _ _ ((H.2.1 _ s (dn_lt H g (by omega))).mp (q2 s q)).2).1 hs
          · rw [q3] at q
            rw [tb_two.mp q] at hs
            exact (H.1 _ _ (g.2.2.1 f (by omega)).1).1 hs
        · exact hs, f2 s⟩)
      have hsp := (g.2.2.2 k (by omega) (Nat.le_refl _)).1 (sp f + lgG G) ⟨f, f1, by
        rcases f4 with q | q
        · right; rw [← e]; exact q
        · exact Or.inl q.1, by rw [← e]; exact f5, by rw [← e]⟩
      omega
  · by_cases q0 : k = 0
    · subst q0
      left
      refine ⟨rfl, ?_⟩
      rw [g.1] at hk
      have h0 : R 0 = R (2 ^ n - 1) := congrArg R hk
      rw [g.2.1, h0, hR]
    · obtain ⟨f0, e1, e2, e3, e4⟩ := (g.2.2.2 k (by omega) (Nat.le_refl _)).2
      refine Or.inr ⟨f0, GS p (k - f0) f0, e1, fun _ q => q, GS_lt H g (by omega), ?_, e3, ?_⟩
      · by_cases q1 : f0 + 1 = k
        · refine Or.inr ⟨q1, ?_⟩
          rw [show k - f0 = 1 by omega, GS, GS]
          exact Nat.zero_or _
        · exact Or.inl (e2.resolve_left q1)
      · rw [dn_GS g (by omega), hk, hR, ← e4]
        rfl
end PL
