/-! the planner of the model: the days of a row -/
theorem mayB_to {kd : Nat → Int32} {P A H : Nat → Nat} {hd : Nat → Int32} {hh : Int32} {ld tn S T s : Nat} (hA : A s < 256) (h : mayB kd P A H hd hh ld tn S s = true) (hT : ¬ tb T s) (hs : sub (A s) T) (h2 : kd s = 2) (hH : H T = H S) : mayB kd P A H hd hh ld tn T s = true := by
  unfold mayB hasB twoB at h ⊢
  rw [Bool.and_eq_true, Bool.and_eq_true, Bool.and_eq_true, decide_eq_true_eq, decide_eq_true_eq, decide_eq_true_eq] at h ⊢
  have h3 := h.2
  rw [h2, if_neg (by decide), if_neg (by decide)] at h3
  rw [h2, if_neg (by decide), if_neg (by decide), hH]
  refine ⟨⟨⟨?_, (sub255 hA).mpr hs⟩, h.1.2⟩, h3⟩
  refine tb_ext (fun i => ⟨fun q => ?_, fun q => absurd q tb_0⟩)
  obtain ⟨q1, q2⟩ := tb_and.mp q
  rw [tb_two.mp q2] at q1
  exact absurd q1 hT
theorem tb_div {S s : Nat} : tb S s ↔ S / 2 ^ s % 2 = 1 := by
  unfold tb
  rw [Nat.testBit_eq_decide_div_mod_eq, decide_eq_true_eq]
section MOD
variable {w z : gIm} {n nh : Nat} {P A hd dy : Nat → Nat} {H0 hhN k : Nat} {q dn sp : Nat → Nat}
/-- what the model reads -/
def mi (w : gIm) (n nh : Nat) (A hd dy : Nat → Nat) (hhN : Nat) (z : gIm) : Prop := (∀ s, s < n → z 66 s = w 17 s ∧ z 68 s = nI (dy s) ∧ z 69 s = nI (hd s) ∧ z 70 s = nI (A s)) ∧ sHands (z 50) (z 44) nh = nI hhN
theorem tg_spec (hq : ∀ j, j < k → rwM z j = q j) (hA : ∀ j, j < k → z 70 (q j) = nI (A (q j)) ∧ A (q j) < 256) {s : Nat} (hs : s < 8) : ∀ m j t, j + m = k → (t = 0 ∨ t = 1) → (fo (tg1 z s) m j t = 0 ∨ fo (tg1 z s) m j t = 1) ∧ (¬ fo (tg1 z s) m j t = 0 ↔ ¬ t = 0 ∧ ∀ i, j ≤ i → i < k → ¬ tb (A (q i)) s)
  | 0, j, t, h, ht => ⟨ht, ⟨fun g => ⟨g, fun i a b => by omega⟩, fun g => g.1⟩⟩
  | m + 1, j, t, h, ht => by
    rw [fo_s]
    have e : (z 70 (rwM z j) >>> (nI s &&& 31)) &&& 1 = 0 ↔ ¬ tb (A (q j)) s := by
      rw [hq j (by omega), (hA j (by omega)).1, nI_bit s hs _ (hA j (by omega)).2, nI_eq0 (by omega), tb_div]
      omega
    have h1 : tg1 z s j t = 0 ∨ tg1 z s j t = 1 := by
      unfold tg1
      split
      · exact Or.inr rfl
      · exact Or.inl rfl
    obtain ⟨i1, i2⟩ := tg_spec hq hA hs m (j + 1) (tg1 z s j t) (by omega) h1
    refine ⟨i1, i2.trans ?_⟩
    unfold tg1
    by_cases g : ¬ t = 0 ∧ (z 70 (rwM z j) >>> (nI s &&& 31)) &&& 1 = 0
    · rw [if_pos g]
      refine ⟨fun g2 => ⟨g.1, fun i a b => ?_⟩, fun g2 => ⟨by decide, fun i a b => g2.2 i (by omega) b⟩⟩
      by_cases c : i = j
      · subst c; exact e.mp g.2
      · exact g2.2 i (by omega) b
    · rw [if_neg g]
      exact ⟨fun g2 => absurd rfl g2.1, fun g2 => absurd ⟨g2.1, e.mpr (g2.2 j (Nat.le_refl _) (by omega))⟩ g⟩
theorem GS_in (h : pf w n P A hd dy H0 hhN) (g : gd (qM w n P A H0) (qO w n P A H0) (svA hd n) (svX dy n) hhN q dn sp n) {i f : Nat} (hi : i ≤ n) (hf : f < i) : ¬ tb (GS q (i - (f + 1)) (f + 1)) (q f) ∧ GS q (i - f) f = GS q (i - (f + 1)) (f + 1) ||| 2 ^ q f ∧ GS q (i - (f + 1)) (f + 1) < 2 ^ n := by
  refine ⟨fun c => ?_, ?_, lt_of_tb (fun s hs => ?_)⟩
  · obtain ⟨j, j1, j2, j3⟩ := (GS_tb _ _ _).mp c
    exact p_ne (pf_pl h) g (i := f) (j := j) (by omega) (by omega) j3.symm
  · rw [show i - f = (i - (f + 1)) + 1 by omega, GS]
  · obtain ⟨j, j1, j2, j3⟩ := (GS_tb _ _ _).mp hs
    rw [← j3]
    exact (qM_is h (g.2.2.1 j (by omega)).1).2.1
theorem dyN_spec (h : pf w n P A hd dy H0 hhN) (g : gd (qM w n P A H0) (qO w n P A H0) (svA hd n) (svX dy n) hhN q dn sp n) (hm : mi w n nh A hd dy hhN z) {i : Nat} (hi : i < n) (hq : ∀ j, j < i + 1 → rwM z j = q j) (h73 : ∀ j, j ≤ i → z 73 j = nI (sp j)) : ∀ f, f ≤ i + 1 → (f = i + 1 ∨ (sub (GS q (i + 1 - f) f) (qO w n P A H0 (dn f)) ∧ svA hd n (GS q (i + 1 - f) f) ≤ hhN)) → ∀ l, l ≤ 1000 →
    ∃ r, dyN z (nI hhN) (i + 1) f (nI (svA hd n (GS q (i + 1 - f) f))) (nI (svX dy n (GS q (i + 1 - f) f))) (nI l) = nI r ∧ r ≤ l ∧ (∀ f', f' < f → sub (GS q (i + 1 - f') f') (qO w n P A H0 (dn f')) → svA hd n (GS q (i + 1 - f') f') ≤ hhN → r ≤ sp f' + svX dy n (GS q (i + 1 - f') f')) ∧
    (r = l ∨ ∃ f', f' < f ∧ sub (GS q (i + 1 - f') f') (qO w n P A H0 (dn f')) ∧ svA hd n (GS q (i + 1 - f') f') ≤ hhN ∧ r = sp f' + svX dy n (GS q (i + 1 - f') f')) := by
  have H := pf_pl h
  have h8 := h.1.1
  intro f
  induction f with
  | zero => intro _ _ l _; exact ⟨l, rfl, Nat.le_refl _, fun f' c => by omega, Or.inl rfl⟩
  | succ f ih =>
    intro hf hv l hl
    obtain ⟨n1, n2, n3⟩ := GS_in h g (i := i + 1) (f := f) (by omega) (by omega)
    have hqf := g.2.2.1 f (by omega)
    have hM := qM_is h hqf.1
    have m66 := hm.1 (q f) hM.2.1
    have eh : svA hd n (GS q (i + 1 - f) f) = svA hd n (GS q (i + 1 - (f + 1)) (f + 1)) + hd (q f) := by
      rw [n2]
      unfold svA
      exact sv_in (fun s t a => add_com hd s t a) n _ _ n3 hM.2.1 n1
    have el : svX dy n (GS q (i + 1 - f) f) = max (svX dy n (GS q (i + 1 - (f + 1)) (f + 1))) (dy (q f)) := by
      rw [n2]
      unfold svX
      exact sv_in (fun s t a => max_com dy s t a) n _ _ n3 hM.2.1 n1
    have tg := tg_spec (A := A) (k := i + 1) hq (fun j hj => by
      have := (qM_is h (g.2.2.1 j (by omega)).1).2.1
      exact ⟨(hm.1 _ this).2.2.2, h.2.2.1 _ this⟩) (s := q f) (by have := hM.2.1; omega) (i + 1 - (f + 1)) (f + 1) 1 (by omega) (Or.inr rfl)
    have b1 := hdG_bd h (GS q (i + 1 - f) f)
    have b2 := lgG_bd h (GS q (i + 1 - f) f)
    have b3 := lgG_bd h (GS q (i + 1 - (f + 1)) (f + 1))
    have b4 := (h.2.1 _ hM.2.1).2.2.2.2
    have hsp := sp_le H g f (by omega)
    rw [dyN, hq f (by omega), m66.1, m66.2.1, m66.2.2.1, nI_add, ← eh, imax_nI (by omega) (by omega), ← el, h73 f (by omega), nI_add]
    have key : (¬ fo (tg1 z (q f)) (i + 1 - (f + 1)) (f + 1) 1 = 0 ∧ w 17 (q f) = 2 ∧ nI (svA hd n (GS q (i + 1 - f) f)) ≤ nI hhN) ↔ (sub (GS q (i + 1 - f) f) (qO w n P A H0 (dn f)) ∧ svA hd n (GS q (i + 1 - f) f) ≤ hhN) := by
      rw [tg.2, nI_le1 b1 h.1.2.2.2]
      constructor
      · rintro ⟨⟨-, c1⟩, c2, c3⟩
        refine ⟨fun t ht => ?_, c3⟩
        obtain ⟨j, j1, j2, j3⟩ := (GS_tb _ _ _).mp ht
        by_cases e : j = f
        · subst e
          rw [← j3]
          exact qO_tb.mpr ⟨c2, hqf.1⟩
        · have hv2 := (hv.resolve_left (by omega)).1
          have ho := hv2 t ((GS_tb _ _ _).mpr ⟨j, by omega, by omega, j3⟩)
          obtain ⟨o1, o2, o3⟩ := qO_tb.mp ho
          have oM := qM_is h (w := w) ⟨o2, o3⟩
          refine qO_tb.mpr ⟨o1, o2, mayB_to (h.2.2.1 t o2) o3 (fun c => oM.1 ?_) (fun u hu => ?_) o1 ?_⟩
          · rw [hqf.2]; exact tb_or.mpr (Or.inl c)
          · have := oM.2.2.1 u hu
            rw [hqf.2] at this
            rcases tb_or.mp this with c | c
            · exact c
            · exfalso
              rw [tb_two.mp c, ← j3] at hu
              exact c1 j (by omega) (by omega) hu
          · rw [hqf.2]
            unfold svH
            rw [sv_in (fun s t a => xor_com (mvN (w 17) P) s t a) n (dn f) (q f) (dn_lt H g (by omega)) hM.2.1 hM.1]
            unfold mvN
            rw [if_pos c2, Nat.xor_zero]
      · rintro ⟨c1, c2⟩
        refine ⟨⟨by decide, fun j j1 j2 c => ?_⟩, ?_, c2⟩
        · have ho := c1 (q j) ((GS_tb _ _ _).mpr ⟨j, by omega, by omega, rfl⟩)
          obtain ⟨o1, o2, o3⟩ := qO_tb.mp ho
          exact hM.1 ((qM_is h (w := w) ⟨o2, o3⟩).2.2.1 _ c)
        · exact (qO_tb.mp (c1 (q f) ((GS_tb _ _ _).mpr ⟨f, by omega, by omega, rfl⟩))).1
    by_cases c : sub (GS q (i + 1 - f) f) (qO w n P A H0 (dn f)) ∧ svA hd n (GS q (i + 1 - f) f) ≤ hhN
    · rw [if_pos (key.mpr c), imin_nI (by omega) (by omega)]
      obtain ⟨r, r1, r2, r3, r4⟩ := ih (by omega) (Or.inr c) (min l (sp f + svX dy n (GS q (i + 1 - f) f))) (by omega)
      refine ⟨r, r1, by omega, fun f' a b d => ?_, ?_⟩
      · by_cases e : f' = f
        · subst e; omega
        · exact r3 f' (by omega) b d
      · rcases r4 with e | ⟨f', e1, e2⟩
        · by_cases q2 : l ≤ sp f + svX dy n (GS q (i + 1 - f) f)
          · left; omega
          · right; exact ⟨f, by omega, c.1, c.2, by omega⟩
        · right; exact ⟨f', by omega, e2⟩
    · rw [if_neg (fun g2 => c (key.mp g2))]
      refine ⟨l, rfl, Nat.le_refl _, fun f' a b d => ?_, Or.inl rfl⟩
      exfalso
      apply c
      constructor
      · intro t ht
        obtain ⟨j, j1, j2, j3⟩ := (GS_tb _ _ _).mp ht
        have := pers H g (f := f') (f - f') (by omega) (fun u a b2 => b _ ((GS_tb _ _ _).mpr ⟨u, a, by omega, rfl⟩)) t (b t ((GS_tb _ _ _).mpr ⟨j, by omega, by omega, j3⟩)) (fun u a b2 e => p_ne H g (i := u) (j := j) (by omega) (by omega) (e.trans j3.symm))
        rwa [show f' + (f - f') = f by omega] at this
      · have hG' : GS q (i + 1 - f') f' < 2 ^ n := lt_of_tb (fun s hs => by
          obtain ⟨j, j1, j2, j3⟩ := (GS_tb _ _ _).mp hs
          rw [← j3]
          exact (qM_is h (g.2.2.1 j (by omega)).1).2.1)
        have := svA_le hd n (GS q (i + 1 - f) f) (GS q (i + 1 - f') f') (fun u hu => by
          obtain ⟨j, j1, j2, j3⟩ := (GS_tb _ _ _).mp hu
          exact (GS_tb _ _ _).mpr ⟨j, by omega, by omega, j3⟩) hG'
        omega
theorem mDy_spec (h : pf w n P A hd dy H0 hhN) (g : gd (qM w n P A H0) (qO w n P A H0) (svA hd n) (svX dy n) hhN q dn sp n) (hm : mi w n nh A hd dy hhN z) (hq : ∀ j, j < n → rwM z j = q j) : mDy (nI hhN) n z 73 n = nI (sp n) := by
  have H := pf_pl h
  unfold mDy
  have base : up2 z 73 0 0 73 0 = nI (sp 0) := by rw [up2_get, if_pos ⟨rfl, rfl⟩, g.2.1]; rfl
  have all : ∀ m i (y : gIm), i + m = n → (∀ c, c ≠ 73 → y c = z c) → (∀ j, j ≤ i → y 73 j = nI (sp j)) → fo (mDy1 (nI hhN)) m i y 73 n = nI (sp n) := by
    intro m
    induction m with
    | zero => intro i y hi _ hj; exact hj n (by omega)
    | succ m ih =>
      intro i y hi hy hj
      rw [fo_s]
      have hqy : ∀ j, j < n → rwM y j = q j := fun j hj => by
        rw [← hq j hj]
        unfold rwM
        rw [hy 71 (by decide)]
      have hmy : mi w n nh A hd dy hhN y := by
        unfold mi
        rw [hy 66 (by decide), hy 68 (by decide), hy 69 (by decide), hy 70 (by decide), hy 50 (by decide), hy 44 (by decide)]
        exact hm
      have hM := qM_is h (g.2.2.1 i (by omega)).1
      have hsp := sp_le H g i (by omega)
      have b4 := (h.2.1 _ hM.2.1).2.2.2.2
      have h8 := h.1.1
      obtain ⟨r, r1, r2, r3, r4⟩ := dyN_spec h g hmy (i := i) (by omega) (fun j hj => hqy j (by omega)) hj (i + 1) (Nat.le_refl _) (Or.inl rfl) (sp i + dy (q i)) (by omega)
      have e0 : svA hd n (GS q (i + 1 - (i + 1)) (i + 1)) = 0 ∧ svX dy n (GS q (i + 1 - (i + 1)) (i + 1)) = 0 := by
        rw [Nat.sub_self, GS]
        unfold svA svX
        rw [sv_0, sv_0]
        exact ⟨rfl, rfl⟩
      rw [e0.1, e0.2] at r1
      have e1 : dyN y (nI hhN) (i + 1) (i + 1) 0 0 (y 73 i + y 68 (rwM y i)) = nI r := by
        rw [hj i (Nat.le_refl _), hqy i (by omega), (hmy.1 _ hM.2.1).2.1, nI_add]
        exact r1
      have eG : GS q (i + 1 - i) i = 2 ^ q i := by
        rw [show i + 1 - i = 1 by omega, GS, GS, Nat.zero_or]
      have er : r = sp (i + 1) := by
        obtain ⟨a1, a2⟩ := g.2.2.2 (i + 1) (by omega) (by omega)
        have h1 : sp (i + 1) ≤ r := by
          refine a1 r ?_
          rcases r4 with e | ⟨f', f1, f2, f3, f4⟩
          · exact ⟨i, by omega, Or.inl rfl, by rw [eG, svA_two hM.2.1]; exact hM.2.2.2, by rw [eG, svX_two hM.2.1]; exact e⟩
          · exact ⟨f', f1, Or.inr f2, f3, f4⟩
        have h2 : r ≤ sp (i + 1) := by
          obtain ⟨f', f1, f2, f3, f4⟩ := a2
          by_cases e : f' = i
          · subst e
            rw [eG, svX_two hM.2.1] at f4
            omega
          · have := r3 f' f1 (f2.resolve_left (by omega)) f3
            omega
        omega
      have ey : mDy1 (nI hhN) i y = up2 y 73 (i + 1) (nI r) := by unfold mDy1; rw [e1]
      rw [ey]
      refine ih (i + 1) _ (by omega) (fun c hc => by rw [up2_ne _ _ _ hc, hy c hc]) (fun j hj2 => ?_)
      rw [up2_get]
      by_cases e : j = i + 1
      · rw [if_pos ⟨rfl, e⟩, er, e]
      · rw [if_neg (fun g2 => e g2.2)]; exact hj j (by omega)
  refine all n 0 _ (by omega) (fun c hc => up2_ne _ _ _ hc) (fun j hj => ?_)
  have : j = 0 := by omega
  subst this
  exact base
end MOD
