/-! the planner: the first row of the fewest days -/
theorem mn_ex (C : Nat → Prop) : ∃ v, mn v C := by
  by_cases h : ∃ c, C c ∧ c < 1000000
  · obtain ⟨c, c1, c2⟩ := h
    have : ∀ m c, c ≤ m → C c → c < 1000000 → ∃ v, mn v C := by
      intro m
      induction m with
      | zero => intro c h1 h2 _; exact ⟨c, by omega, fun d _ => by omega, Or.inr h2⟩
      | succ m ih =>
        intro c h1 h2 h3
        by_cases q : ∃ d, d < c ∧ C d
        · obtain ⟨d, d1, d2⟩ := q
          exact ih d (by omega) d2 (by omega)
        · exact ⟨c, by omega, fun d hd => Classical.byContradiction (fun g => q ⟨d, by omega, hd⟩), Or.inr h2⟩
    exact this c c (Nat.le_refl _) c1 c2
  · exact ⟨1000000, Nat.le_refl _, fun c hc => Classical.byContradiction (fun g => h ⟨c, hc, by omega⟩), Or.inl rfl⟩
theorem GS_same {p p' : Nat → Nat} : ∀ l f, (∀ i, f ≤ i → i < f + l → p i = p' i) → GS p l f = GS p' l f
  | 0, _, _ => rfl
  | l + 1, f, h => by rw [GS, GS, GS_same l (f + 1) (fun i a b => h i (by omega) (by omega)), h f (Nat.le_refl _) (by omega)]
section ROW
variable {n : Nat} {may : Nat → Nat → Prop} {tune : Nat → Prop} {op hdG lgG R : Nat → Nat} {hh : Nat} {p dn sp p' dn' sp' : Nat → Nat} {k : Nat}
theorem CD_same (hp : ∀ i, i < k → p i = p' i) (hd : ∀ f, f < k → dn f = dn' f ∧ sp f = sp' f) (c : Nat) (h : CD n op hdG lgG hh R p dn sp k c) : CD n op hdG lgG hh R p' dn' sp' k c := by
  rcases h with h | ⟨f, G, f1, f2, f3, f4, f5, f6⟩
  · exact Or.inl h
  · have e := GS_same (p := p) (p' := p') (k - f) f (fun i a b => hp i (by omega))
    obtain ⟨d1, d2⟩ := hd f f1
    rw [e] at f2
    rw [d1, hp f f1] at f4
    rw [d1, d2] at f6
    exact Or.inr ⟨f, G, f1, f2, f3, f4, f5, f6⟩
theorem mn_same {v : Nat} {C D : Nat → Prop} (h : ∀ c, C c ↔ D c) (g : mn v C) : mn v D := ⟨g.1, fun c hc => g.2.1 c ((h c).mpr hc), g.2.2.imp id (h v).mp⟩
theorem mnCD_same (hp : ∀ i, i < k → p i = p' i) (hd : ∀ f, f < k → dn f = dn' f ∧ sp f = sp' f) {v : Nat} (h : mn v (CD n op hdG lgG hh R p dn sp k)) : mn v (CD n op hdG lgG hh R p' dn' sp' k) :=
  mn_same (fun c => ⟨CD_same hp hd c, CD_same (fun i hi => (hp i hi).symm) (fun f hf => ⟨(hd f hf).1.symm, (hd f hf).2.symm⟩) c⟩) h
theorem spC_same {j : Nat} (hp : ∀ i, i < j → p i = p' i) (hd : ∀ f, f < j → dn f = dn' f ∧ sp f = sp' f) (c : Nat) (h : spC op hdG lgG hh p dn sp j c) : spC op hdG lgG hh p' dn' sp' j c := by
  obtain ⟨f, f1, f2, f3, f4⟩ := h
  have e := GS_same (p := p) (p' := p') (j - f) f (fun i a b => hp i (by omega))
  obtain ⟨d1, d2⟩ := hd f f1
  rw [e] at f2 f3 f4
  rw [d1] at f2
  rw [d2] at f4
  exact ⟨f, f1, f2, f3, f4⟩
theorem gd_same (g : gd may op hdG lgG hh p dn sp k) (g' : gd may op hdG lgG hh p' dn' sp' k) : ∀ j, j ≤ k → (∀ i, i < j → p i = p' i) → ∀ f, f ≤ j → dn f = dn' f ∧ sp f = sp' f := by
  intro j
  induction j with
  | zero =>
    intro _ _ f hf
    have : f = 0 := by omega
    subst this
    exact ⟨g.1.trans g'.1.symm, g.2.1.trans g'.2.1.symm⟩
  | succ j ih =>
    intro hj hp f hf
    have IH := ih (by omega) (fun i hi => hp i (by omega))
    by_cases q : f ≤ j
    · exact IH f q
    · have e : f = j + 1 := by omega
      subst e
      refine ⟨?_, ?_⟩
      · rw [(g.2.2.1 j (by omega)).2, (g'.2.2.1 j (by omega)).2, (IH j (Nat.le_refl _)).1, hp j (by omega)]
      · obtain ⟨a1, a2⟩ := g.2.2.2 (j + 1) (by omega) hj
        obtain ⟨b1, b2⟩ := g'.2.2.2 (j + 1) (by omega) hj
        have h1 := b1 _ (spC_same hp (fun f hf => IH f (by omega)) _ a2)
        have h2 := a1 _ (spC_same (fun i hi => (hp i hi).symm) (fun f hf => ⟨(IH f (by omega)).1.symm, (IH f (by omega)).2.symm⟩) _ b2)
        omega
/-- q is the first row of v days that goes on with p, k steps in -/
def bst (n : Nat) (may : Nat → Nat → Prop) (op hdG lgG : Nat → Nat) (hh : Nat) (R : Nat → Nat) (k v : Nat) (p q : Nat → Nat) : Prop := (∀ j, j < k → q j = p j) ∧ ∃ dn sp, gd may op hdG lgG hh q dn sp n ∧ ∀ j, k ≤ j → j < n → mn v (CD n op hdG lgG hh R q dn sp (j + 1)) ∧ ∀ s, s < q j → may (dn j) s → ¬ mn v (CD n op hdG lgG hh R (pup q j s) dn sp (j + 1))
theorem bst_one {v : Nat} {q q' : Nat → Nat} (h : bst n may op hdG lgG hh R 0 v p q) (h' : bst n may op hdG lgG hh R 0 v p' q') : ∀ j, j ≤ n → ∀ i, i < j → q i = q' i := by
  obtain ⟨-, dn, sp, g, b⟩ := h
  obtain ⟨-, dn', sp', g', b'⟩ := h'
  have half : ∀ (q q' dn sp dn' sp' : Nat → Nat), gd may op hdG lgG hh q dn sp n → gd may op hdG lgG hh q' dn' sp' n → (∀ j, 0 ≤ j → j < n → mn v (CD n op hdG lgG hh R q dn sp (j + 1)) ∧ ∀ s, s < q j → may (dn j) s → ¬ mn v (CD n op hdG lgG hh R (pup q j s) dn sp (j + 1))) → (∀ j, 0 ≤ j → j < n → mn v (CD n op hdG lgG hh R q' dn' sp' (j + 1)) ∧ ∀ s, s < q' j → may (dn' j) s → ¬ mn v (CD n op hdG lgG hh R (pup q' j s) dn' sp' (j + 1))) → ∀ j, j < n → (∀ i, i < j → q i = q' i) → ¬ q j < q' j := by
    intro q q' dn sp dn' sp' g g' b b' j hj hq hlt
    have hs := gd_same g g' j (by omega) hq
    refine (b' j (by omega) hj).2 (q j) hlt (by rw [← (hs j (Nat.le_refl _)).1]; exact (g.2.2.1 j hj).1) (mnCD_same (p := q) (dn := dn) (sp := sp) (fun i hi => ?_) (fun f hf => hs f (by omega)) (b j (by omega) hj).1)
    unfold pup
    by_cases e : i = j
    · rw [if_pos e, e]
    · rw [if_neg e]; exact hq i (by omega)
  intro j
  induction j with
  | zero => intro _ i hi; omega
  | succ j ih =>
    intro hj i hi
    have IH := ih (by omega)
    by_cases e : i = j
    · subst e
      have h1 := half q q' dn sp dn' sp' g g' b b' i (by omega) IH
      have h2 := half q' q dn' sp' dn sp g' g b' b i (by omega) (fun t ht => (IH t ht).symm)
      omega
    · exact IH i (by omega)
theorem gd_ext2 (g : gd may op hdG lgG hh p dn sp k) {s v : Nat} (hs : may (dn k) s) (v1 : ∀ c, spC op hdG lgG hh (pup p k s) dn sp (k + 1) c → v ≤ c) (v2 : spC op hdG lgG hh (pup p k s) dn sp (k + 1) v) : gd may op hdG lgG hh (pup p k s) (pup dn (k + 1) (dn k ||| 2 ^ s)) (pup sp (k + 1) v) (k + 1) := by
  have dnl : ∀ j, j ≤ k → pup dn (k + 1) (dn k ||| 2 ^ s) j = dn j := fun j hj => by unfold pup; rw [if_neg (by omega)]
  have spl : ∀ j, j ≤ k → pup sp (k + 1) v j = sp j := fun j hj => by unfold pup; rw [if_neg (by omega)]
  have pl : ∀ j, j < k → pup p k s j = p j := fun j hj => by unfold pup; rw [if_neg (by omega)]
  refine ⟨?_, ?_, fun j hj => ?_, fun j h0 hj => ?_⟩
  · rw [dnl 0 (by omega)]; exact g.1
  · rw [spl 0 (by omega)]; exact g.2.1
  · by_cases q : j = k
    · subst q
      rw [dnl j (Nat.le_refl _)]
      refine ⟨?_, ?_⟩
      · unfold pup; rw [if_pos rfl]; exact hs
      · unfold pup; rw [if_pos rfl, if_pos rfl]
    · rw [dnl j (by omega), dnl (j + 1) (by omega), pl j (by omega)]
      exact g.2.2.1 j (by omega)
  · by_cases q : j = k + 1
    · subst q
      have e : pup sp (k + 1) v (k + 1) = v := by unfold pup; rw [if_pos rfl]
      rw [e]
      exact ⟨fun c hc => v1 c (spC_same (fun i hi => rfl) (fun f hf => ⟨dnl f (by omega), spl f (by omega)⟩) c hc), spC_same (fun i hi => rfl) (fun f hf => ⟨(dnl f (by omega)).symm, (spl f (by omega)).symm⟩) v v2⟩
    · obtain ⟨a1, a2⟩ := g.2.2.2 j h0 (by omega)
      rw [spl j (by omega)]
      exact ⟨fun c hc => a1 c (spC_same (fun i hi => pl i (by omega)) (fun f hf => ⟨dnl f (by omega), spl f (by omega)⟩) c hc), spC_same (fun i hi => (pl i (by omega)).symm) (fun f hf => ⟨(dnl f (by omega)).symm, (spl f (by omega)).symm⟩) _ a2⟩
/-- one step more -/
theorem gd_ext (H : plH n may tune op hdG lgG hh R) (g : gd may op hdG lgG hh p dn sp k) {s : Nat} (hs : may (dn k) s) : ∃ sp', gd may op hdG lgG hh (pup p k s) (pup dn (k + 1) (dn k ||| 2 ^ s)) sp' (k + 1) ∧ ∀ j, j ≤ k → sp' j = sp j := by
  obtain ⟨m1, m2, m3⟩ := H.1 _ _ hs
  have eG : GS (pup p k s) (k + 1 - k) k = 2 ^ s := by
    rw [show k + 1 - k = 1 by omega, GS, GS, Nat.zero_or]
    unfold pup
    rw [if_pos rfl]
  have hex : ∃ v, (∀ c, spC op hdG lgG hh (pup p k s) dn sp (k + 1) c → v ≤ c) ∧ spC op hdG lgG hh (pup p k s) dn sp (k + 1) v := by
    have : ∀ m c, c ≤ m → spC op hdG lgG hh (pup p k s) dn sp (k + 1) c → ∃ v, (∀ c, spC op hdG lgG hh (pup p k s) dn sp (k + 1) c → v ≤ c) ∧ spC op hdG lgG hh (pup p k s) dn sp (k + 1) v := by
      intro m
      induction m with
      | zero => intro c h1 h2; exact ⟨c, fun d _ => by omega, h2⟩
      | succ m ih =>
        intro c h1 h2
        by_cases q : ∃ d, d < c ∧ spC op hdG lgG hh (pup p k s) dn sp (k + 1) d
        · obtain ⟨d, d1, d2⟩ := q
          exact ih d (by omega) d2
        · exact ⟨c, fun d hd => Classical.byContradiction (fun g => q ⟨d, by omega, hd⟩), h2⟩
    exact this _ _ (Nat.le_refl _) ⟨k, by omega, Or.inl rfl, by rw [eG]; exact m3, rfl⟩
  obtain ⟨v, v1, v2⟩ := hex
  exact ⟨pup sp (k + 1) v, gd_ext2 g hs v1 v2, fun j hj => by unfold pup; rw [if_neg (by omega)]⟩
/-- the least and the next steps -/
theorem V_le (H : plH n may tune op hdG lgG hh R) (g : gd may op hdG lgG hh p dn sp k) {v u s : Nat} (hv : mn v (CD n op hdG lgG hh R p dn sp k)) (hs : may (dn k) s) (hu : mn u (CD n op hdG lgG hh R (pup p k s) dn sp (k + 1))) : v ≤ u := by
  rcases hu.2.2 with q | q
  · rw [q]; exact hv.1
  · obtain ⟨c, c1, c2⟩ := CD_back H g s hs u q
    have := hv.2.1 c c2
    omega
theorem V_at (H : plH n may tune op hdG lgG hh R) (g : gd may op hdG lgG hh p dn sp k) (hk : dn k ≠ 2 ^ n - 1) {v : Nat} (hv : mn v (CD n op hdG lgG hh R p dn sp k)) (h : v < 1000000) : ∃ s, may (dn k) s ∧ mn v (CD n op hdG lgG hh R (pup p k s) dn sp (k + 1)) := by
  have hc := hv.2.2.resolve_left (by omega)
  obtain ⟨s, s1, c, c1, c2⟩ := CD_on H g hk v h hc
  obtain ⟨u, hu⟩ := mn_ex (CD n op hdG lgG hh R (pup p k s) dn sp (k + 1))
  have h1 := hu.2.1 c c2
  have h2 := V_le H g hv s1 hu
  rw [show u = v by omega] at hu
  exact ⟨s, s1, hu⟩
/-- how many steps are in a set -/
def pcN (n S : Nat) : Nat := svA (fun _ => 1) n S
theorem pcN_le (n S : Nat) : pcN n S ≤ n := by
  have := svA_bd (f := fun _ => 1) (b := 1) n S (fun _ _ => Nat.le_refl _)
  unfold pcN
  omega
theorem pcN_full : ∀ n S, S < 2 ^ n → pcN n S = n → S = 2 ^ n - 1
  | 0, S, h, _ => by omega
  | n + 1, S, h, e => by
    unfold pcN svA at e
    rcases lo_or_hi h with g | ⟨x, g, rfl⟩
    · rw [sv_lo g] at e
      have := pcN_le n S
      unfold pcN svA at this
      omega
    · rw [sv_hi] at e
      have e2 : sv (fun s a => a + (fun _ => 1) s) 0 n x + 1 = n + 1 := e
      have := pcN_full n x g (by unfold pcN svA; omega)
      rw [this, Nat.pow_succ]
      have := Nat.two_pow_pos n
      omega
theorem pcN_in {n S s : Nat} (h : S < 2 ^ n) (hs : s < n) (hn : ¬ tb S s) : pcN n (S ||| 2 ^ s) = pcN n S + 1 := by
  unfold pcN svA
  rw [sv_in (fun s t a => rfl) n S s h hs hn]
theorem pcN_dn (H : plH n may tune op hdG lgG hh R) (g : gd may op hdG lgG hh p dn sp k) : ∀ j, j ≤ k → pcN n (dn j) = j := by
  intro j
  induction j with
  | zero => intro _; rw [g.1]; unfold pcN svA; rw [sv_0]
  | succ j ih =>
    intro hj
    obtain ⟨m1, m2, -⟩ := H.1 _ _ (g.2.2.1 j (by omega)).1
    rw [(g.2.2.1 j (by omega)).2, pcN_in (dn_lt H g (by omega)) m2 m1, ih (by omega)]
theorem dn_full (H : plH n may tune op hdG lgG hh R) (g : gd may op hdG lgG hh p dn sp n) : dn n = 2 ^ n - 1 := pcN_full n _ (dn_lt H g (Nat.le_refl _)) (pcN_dn H g n (Nat.le_refl _))
theorem dn_notfull (H : plH n may tune op hdG lgG hh R) (g : gd may op hdG lgG hh p dn sp k) (hk : k < n) : dn k ≠ 2 ^ n - 1 := by
  intro e
  have h1 := pcN_dn H g k (Nat.le_refl _)
  rw [e] at h1
  have h2 : pcN n (2 ^ n - 1) = n := by
    have : ∀ m, pcN m (2 ^ m - 1) = m := by
      intro m
      induction m with
      | zero => rfl
      | succ m ih =>
        have hp := Nat.two_pow_pos m
        rw [show 2 ^ (m + 1) - 1 = 2 ^ m + (2 ^ m - 1) by rw [Nat.pow_succ]; omega]
        unfold pcN svA at *
        rw [sv_hi, ih]
    exact this n
  omega
/-- with a step that may never be done there is no row -/
theorem V_none (H : plH n may tune op hdG lgG hh R) {t : Nat} (ht : t < n) (hm : ∀ S, ¬ may S t) : ∀ m k (p dn sp : Nat → Nat), k + m = n → gd may op hdG lgG hh p dn sp k → ∀ v, mn v (CD n op hdG lgG hh R p dn sp k) → ¬ v < 1000000 := by
  intro m
  induction m with
  | zero =>
    intro k p dn sp hk g v _ _
    have e : k = n := by omega
    subst e
    have := dn_full H g
    have h2 : tb (dn k) t := by rw [this]; exact tb_full.mpr ht
    obtain ⟨i, i1, i2⟩ := (dn_tb g k (Nat.le_refl _) t).mp h2
    have := (g.2.2.1 i i1).1
    rw [i2] at this
    exact hm _ this
  | succ m ih =>
    intro k p dn sp hk g v hv hlt
    obtain ⟨s, s1, s2⟩ := V_at H g (dn_notfull H g (by omega)) hv hlt
    obtain ⟨sp', g', e'⟩ := gd_ext H g s1
    refine ih (k + 1) _ _ _ (by omega) g' v (mnCD_same (fun i hi => rfl) (fun f hf => ⟨?_, (e' f (by omega)).symm⟩) s2) hlt
    unfold pup
    rw [if_neg (by omega)]
end ROW
