/-! the planner: the row that it chooses -/
def eqX (w w0 : gIm) : Prop := ∀ c, c ≠ 28 → c ≠ 29 → c ≠ 30 → w c = w0 c
def spI (w : gIm) (j : Nat) : Nat := (w 30 j).toNatClampNeg
def tbl (w w0 : gIm) (n : Nat) (P A hd dy : Nat → Nat) (H0 hhN k : Nat) : Prop := eqX w w0 ∧ gd (qM w0 n P A H0) (qO w0 n P A H0) (svA hd n) (svX dy n) hhN (rwI w) (dnI w) (spI w) k ∧ ∀ j, j ≤ k → w 30 j = nI (spI w j)
section CH
variable {w w0 : gIm} {n : Nat} {P A hd dy : Nat → Nat} {H0 hhN k : Nat}
theorem rgP (h : pf w0 n P A hd dy H0 hhN) {S b o : Nat} (hS : S < 2 ^ n) (hb : b < 2 ^ n) (ho : o < 2 ^ n) : ∃ r, rgI w0 S b o = nI r ∧ r ≤ 1000000 ∧ (∀ x, sub x o → svA hd n (b ||| x) ≤ hhN → r ≤ svX dy n (b ||| x) + qR w0 (S ||| (b ||| x))) ∧ (r = 1000000 ∨ ∃ x, sub x o ∧ svA hd n (b ||| x) ≤ hhN ∧ r = svX dy n (b ||| x) + qR w0 (S ||| (b ||| x))) := by
  have hp := n256 h.1.1
  obtain ⟨r, r1, r2, r3, r4⟩ := rgI_spec (w := w0) (S := S) (b := b) (o := o) (hdG := svA hd n) (lgG := svX dy n) (R := qR w0) (by omega) h.1.2.2.1 h.1.2.2.2 (fun x hx => by
    have hx2 : x < 2 ^ n := lt_of_tb (fun t ht => tb_lt ho (and_sub.mp hx t ht))
    have hb2 : b ||| x < 2 ^ n := Nat.or_lt_two_pow hb hx2
    obtain ⟨i1, i2, -⟩ := qR_all h (2 ^ n) (S ||| (b ||| x)) (Nat.or_lt_two_pow hS hb2) (by omega)
    exact ⟨(h.2.2.2.1 _ hb2).1, hdG_bd h _, (h.2.2.2.1 _ hb2).2, lgG_bd h _, i1, i2⟩)
  exact ⟨r, r1, r2, fun x hx => r3 x (and_sub.mpr hx), r4.imp id (fun ⟨x, x1, x2⟩ => ⟨x, and_sub.mp x1, x2⟩)⟩
theorem rg_eq (h : eqX w w0) (S b o : Nat) : rgI w S b o = rgI w0 S b o := by
  unfold rgI
  rw [h 24 (by decide) (by decide) (by decide), h 25 (by decide) (by decide) (by decide), h 26 (by decide) (by decide) (by decide), h 22 (by decide) (by decide) (by decide)]
theorem op_eq (h : pf w0 n P A hd dy H0 hhN) (e : eqX w w0) {S : Nat} (hS : S < 2 ^ n - 1) : opR w S = qO w0 n P A H0 S := by
  have hp := n256 h.1.1
  have hq : qO w0 n P A H0 S < 2 ^ n := qO_lt
  unfold opR
  rw [e 27 (by decide) (by decide) (by decide), (h.2.2.2.2.2 S hS).1, nI_cl1 (by omega)]
theorem may_eq (e : eqX w w0) {S s : Nat} : mayI w (ldB (w0 17) 0 n) (ldB (w0 17) 2 n) P A (svH (mvN (w0 17) P) H0 n) S s = mayI w0 (ldB (w0 17) 0 n) (ldB (w0 17) 2 n) P A (svH (mvN (w0 17) P) H0 n) S s := by
  unfold mayI
  rw [e 17 (by decide) (by decide) (by decide), e 20 (by decide) (by decide) (by decide), e 22 (by decide) (by decide) (by decide)]
/-- a set that lacks a step is not the whole -/
theorem not_full {S s : Nat} (h : S < 2 ^ n) (hs : s < n) (hn : ¬ tb S s) : S < 2 ^ n - 1 := by
  have : S ≠ 2 ^ n - 1 := fun e => hn (by rw [e]; exact tb_full.mpr hs)
  omega
/-- a later part of an open group is open -/
theorem late (h : pf w0 n P A hd dy H0 hhN) {p dn sp : Nat → Nat} (g : gd (qM w0 n P A H0) (qO w0 n P A H0) (svA hd n) (svX dy n) hhN p dn sp k) {s : Nat} (hs : qM w0 n P A H0 (dn k) s) {f' f : Nat} (h1 : f' ≤ f) (h2 : f ≤ k) (hv : sub (GS (pup p k s) (k + 1 - f') f') (qO w0 n P A H0 (dn f'))) : sub (GS (pup p k s) (k + 1 - f) f) (qO w0 n P A H0 (dn f)) := by
  have hM := qM_is h hs
  intro t ht
  obtain ⟨i, i1, i2, i3⟩ := (GS_tb _ _ _).mp ht
  have ho : tb (qO w0 n P A H0 (dn f')) t := hv t ((GS_tb _ _ _).mpr ⟨i, by omega, by omega, i3⟩)
  have := pers (pf_pl h) g (f := f') (f - f') (by omega) (fun j a b => hv _ ((GS_tb _ _ _).mpr ⟨j, a, by omega, by unfold pup; rw [if_neg (by omega)]⟩)) t ho (fun j a b e => by
    by_cases q : i = k
    · unfold pup at i3
      rw [if_pos q] at i3
      rw [← i3] at e
      exact hM.1 ((dn_tb g k (Nat.le_refl _) s).mpr ⟨j, by omega, e⟩)
    · unfold pup at i3
      rw [if_neg q] at i3
      exact p_ne (pf_pl h) g (i := j) (j := i) (by omega) (by omega) (e.trans i3.symm))
  rwa [show f' + (f - f') = f by omega] at this
theorem GSp_lt (h : pf w0 n P A hd dy H0 hhN) {p dn sp : Nat → Nat} (g : gd (qM w0 n P A H0) (qO w0 n P A H0) (svA hd n) (svX dy n) hhN p dn sp k) {s : Nat} (hs : s < n) {f : Nat} (hf : f ≤ k) : GS (pup p k s) (k + 1 - f) f < 2 ^ n :=
  lt_of_tb (fun t ht => by
    obtain ⟨i, i1, i2, i3⟩ := (GS_tb _ _ _).mp ht
    unfold pup at i3
    by_cases q : i = k
    · rw [if_pos q] at i3; omega
    · rw [if_neg q] at i3
      rw [← i3]
      exact (qM_is h (g.2.2.1 i (by omega)).1).2.1)
theorem GSp_s (p : Nat → Nat) (s : Nat) {f : Nat} (hf : f < k) : GS (pup p k s) (k + 1 - (f + 1)) (f + 1) ||| 2 ^ p f = GS (pup p k s) (k + 1 - f) f := by
  rw [show k + 1 - f = (k + 1 - (f + 1)) + 1 by omega, GS]
  congr 2
  unfold pup
  rw [if_neg (by omega)]
theorem dwN_spec (h : pf w0 n P A hd dy H0 hhN) (t : tbl w w0 n P A hd dy H0 hhN k) {s : Nat} (hs : qM w0 n P A H0 (dnI w k) s) (hk : k ≤ 8) : ∀ f, f ≤ k → ∀ l, l ≤ 2000000 → ∃ r, dwN w f (GS (pup (rwI w) k s) (k + 1 - f) f) (nI l) = nI r ∧ r ≤ l ∧
    (∀ f' G, f' < f → sub (GS (pup (rwI w) k s) (k + 1 - f') f') G → sub G (qO w0 n P A H0 (dnI w f')) → svA hd n G ≤ hhN → r ≤ spI w f' + svX dy n G + qR w0 (dnI w f' ||| G)) ∧
    (r = l ∨ 1000000 ≤ r ∨ ∃ f' G, f' < f ∧ sub (GS (pup (rwI w) k s) (k + 1 - f') f') G ∧ G < 2 ^ n ∧ sub G (qO w0 n P A H0 (dnI w f')) ∧ svA hd n G ≤ hhN ∧ r = spI w f' + svX dy n G + qR w0 (dnI w f' ||| G)) := by
  have hp := n256 h.1.1
  obtain ⟨te, tg, t30⟩ := t
  have hM := qM_is h hs
  intro f
  induction f with
  | zero => intro _ l _; exact ⟨l, rfl, Nat.le_refl _, fun f' G q => by omega, Or.inl rfl⟩
  | succ f ih =>
    intro hf l hl
    have hdn : dnI w f < 2 ^ n := dn_lt (pf_pl h) tg (by omega)
    have hfull : dnI w f < 2 ^ n - 1 := not_full hdn (qM_is h (tg.2.2.1 f (by omega)).1).2.1 (qM_is h (tg.2.2.1 f (by omega)).1).1
    have hG : GS (pup (rwI w) k s) (k + 1 - f) f < 2 ^ n := GSp_lt h tg hM.2.1 (by omega)
    rw [dwN, GSp_s _ _ (by omega), op_eq h te hfull]
    by_cases q : sub (GS (pup (rwI w) k s) (k + 1 - f) f) (qO w0 n P A H0 (dnI w f))
    · rw [if_pos ((sub255 (by omega)).mpr q), rg_eq te]
      have hO : qO w0 n P A H0 (dnI w f) < 2 ^ n := qO_lt
      obtain ⟨r0, e1, e2, e3, e4⟩ := rgP h (S := dnI w f) (b := GS (pup (rwI w) k s) (k + 1 - f) f) (o := qO w0 n P A H0 (dnI w f) &&& (255 ^^^ GS (pup (rwI w) k s) (k + 1 - f) f)) hdn hG (and_lt hO)
      have hsp := sp_le (pf_pl h) tg f (by omega)
      rw [e1, t30 f (by omega), nI_add, imin_nI (by omega) (by omega)]
      obtain ⟨r, r1, r2, r3, r4⟩ := ih (by omega) (min l (spI w f + r0)) (by omega)
      refine ⟨r, r1, by omega, fun f' G a b c d => ?_, ?_⟩
      · by_cases qf : f' = f
        · subst qf
          have hx : GS (pup (rwI w) k s) (k + 1 - f') f' ||| (G &&& (255 ^^^ GS (pup (rwI w) k s) (k + 1 - f') f')) = G := by
            have hG2 : G < 2 ^ n := lt_of_tb (fun u hu => tb_lt hO (c u hu))
            refine tb_ext (fun u => ?_)
            rw [tb_or, tb_dif (by omega)]
            exact ⟨fun z => z.elim (fun z => b u z) (fun z => z.1), fun z => (Classical.em _).imp id (fun z2 => ⟨z, z2⟩)⟩
          have := e3 (G &&& (255 ^^^ GS (pup (rwI w) k s) (k + 1 - f') f')) (fun u hu => by
            have hG2 : G < 2 ^ n := lt_of_tb (fun u hu => tb_lt hO (c u hu))
            rw [tb_dif (by omega)] at hu ⊢
            exact ⟨c u hu.1, hu.2⟩) (by rw [hx]; exact d)
          rw [hx] at this
          omega
        · exact r3 f' G (by omega) b c d
      · rcases r4 with z | z | ⟨f', G, z1, z2⟩
        · by_cases q2 : l ≤ spI w f + r0
          · left; omega
          · rcases e4 with e4 | ⟨x, x1, x2, x3⟩
            · right; left; omega
            · right; right
              have hxo : sub x (qO w0 n P A H0 (dnI w f)) := fun u hu => ((tb_dif (by omega)).mp (x1 u hu)).1
              have hx2 : x < 2 ^ n := lt_of_tb (fun u hu => tb_lt hO (hxo u hu))
              exact ⟨f, GS (pup (rwI w) k s) (k + 1 - f) f ||| x, by omega, fun u hu => tb_or.mpr (Or.inl hu), Nat.or_lt_two_pow hG hx2, fun u hu => (tb_or.mp hu).elim (q u) (hxo u), x2, by omega⟩
        · right; left; exact z
        · right; right; exact ⟨f', G, by omega, z2⟩
    · rw [if_neg (fun g => q ((sub255 (by omega)).mp g))]
      refine ⟨l, rfl, Nat.le_refl _, fun f' G a b c d => ?_, Or.inl rfl⟩
      exact absurd (late h tg hs (f' := f') (f := f) (by omega) (by omega) (fun u hu => c u (b u hu))) q
/-- the least of all rows that go on with s -/
theorem dwI_spec (h : pf w0 n P A hd dy H0 hhN) (t : tbl w w0 n P A hd dy H0 hhN k) {s : Nat} (hs : qM w0 n P A H0 (dnI w k) s) (hk : k ≤ 8) : ∃ r, dwI w k s = nI r ∧ r ≤ 1000100 ∧ mn (min 1000000 r) (CD n (qO w0 n P A H0) (svA hd n) (svX dy n) hhN (qR w0) (pup (rwI w) k s) (dnI w) (spI w) (k + 1)) := by
  have hp := n256 h.1.1
  have hM := qM_is h hs
  have te := t.1
  have tg := t.2.1
  have hdn : dnI w k < 2 ^ n := dn_lt (pf_pl h) tg (Nat.le_refl _)
  have hfull : dnI w k < 2 ^ n - 1 := not_full hdn hM.2.1 hM.1
  have hO : qO w0 n P A H0 (dnI w k) < 2 ^ n := qO_lt
  have h2s : 2 ^ s < 2 ^ n := Nat.pow_lt_pow_right (by omega) hM.2.1
  have hd0 : d0I w k s < 2 ^ n ∧ ∀ u, tb (d0I w k s) u ↔ w0 17 s = 2 ∧ tb (qO w0 n P A H0 (dnI w k)) u ∧ u ≠ s := by
    unfold d0I
    rw [te 17 (by decide) (by decide) (by decide), op_eq h te hfull]
    split
    · rename_i q
      refine ⟨and_lt hO, fun u => ?_⟩
      rw [tb_dif (by omega), tb_two]
      exact ⟨fun z => ⟨q, z.1, z.2⟩, fun z => ⟨z.2.1, z.2.2⟩⟩
    · rename_i q
      exact ⟨Nat.two_pow_pos n, fun u => ⟨fun z => absurd z tb_0, fun z => absurd z.1 q⟩⟩
  obtain ⟨r0, e1, e2, e3, e4⟩ := rgP h (S := dnI w k) (b := 2 ^ s) (o := d0I w k s) hdn h2s hd0.1
  have hsp := sp_le (pf_pl h) tg k (Nat.le_refl _)
  have eG : GS (pup (rwI w) k s) (k + 1 - k) k = 2 ^ s := by
    rw [show k + 1 - k = 1 by omega, GS, GS, Nat.zero_or]
    unfold pup
    rw [if_pos rfl]
  obtain ⟨r, r1, r2, r3, r4⟩ := dwN_spec h t hs hk k (Nat.le_refl _) (spI w k + r0) (by omega)
  rw [eG] at r1
  refine ⟨r, ?_, by omega, by omega, fun c hc => ?_, ?_⟩
  · unfold dwI
    rw [rg_eq te, e1, t.2.2 k (Nat.le_refl _), nI_add]
    exact r1
  · rcases hc with ⟨c1, -⟩ | ⟨f, G, f1, f2, f3, f4, f5, f6⟩
    · omega
    · by_cases q : f = k
      · subst q
        rw [eG] at f2
        have hx : 2 ^ s ||| (G &&& (255 ^^^ 2 ^ s)) = G := by
          refine tb_ext (fun u => ?_)
          rw [tb_or, tb_dif (by omega), tb_two]
          exact ⟨fun z => z.elim (fun z => f2 u (tb_two.mpr z)) (fun z => z.1), fun z => (Classical.em (u = s)).imp id (fun z2 => ⟨z, z2⟩)⟩
        have := e3 (G &&& (255 ^^^ 2 ^ s)) (fun u hu => by
          rw [tb_dif (by omega), tb_two] at hu
          rw [hd0.2]
          rcases f4 with z | ⟨-, z⟩
          · exact ⟨(qO_tb.mp (z s (f2 s (tb_two.mpr rfl)))).1, z u hu.1, hu.2⟩
          · rw [z] at hu
            unfold pup at hu
            rw [if_pos rfl, tb_two] at hu
            exact absurd hu.1 hu.2) (by rw [hx]; exact f5)
        rw [hx] at this
        omega
      · rcases f4 with z | z
        · have := r3 f G (by omega) f2 z f5
          omega
        · omega
  · by_cases q9 : r < 1000000
    · right
      rw [Nat.min_eq_right (by omega)]
      rcases r4 with z | z | ⟨f, G, z1, z2, z3, z4, z5, z6⟩
      · rcases e4 with e4 | ⟨x, x1, x2, x3⟩
        · omega
        · refine Or.inr ⟨k, 2 ^ s ||| x, by omega, ?_, ?_, ?_, x2, by omega⟩
          · rw [eG]; exact fun u hu => tb_or.mpr (Or.inl hu)
          · exact Nat.or_lt_two_pow h2s (lt_of_tb (fun u hu => tb_lt hd0.1 (x1 u hu)))
          · by_cases q : x = 0
            · right
              refine ⟨rfl, ?_⟩
              unfold pup
              rw [if_pos rfl, q, Nat.or_zero]
            · left
              obtain ⟨u, hu⟩ := tb_ne q
              have k2 := ((hd0.2 u).mp (x1 u hu)).1
              intro v hv
              rcases tb_or.mp hv with hv | hv
              · rw [tb_two.mp hv]; exact qO_tb.mpr ⟨k2, hs⟩
              · exact ((hd0.2 v).mp (x1 v hv)).2.1
      · omega
      · exact Or.inr ⟨f, G, by omega, z2, z3, Or.inl z4, z5, z6⟩
    · left; omega
/-- the days of the row, one step on -/
theorem swN_spec (h : pf w0 n P A hd dy H0 hhN) (t : tbl w w0 n P A hd dy H0 hhN k) {s : Nat} (hs : qM w0 n P A H0 (dnI w k) s) (hk : k ≤ 8) (z : gIm) (ez : eqX z w0) (e28 : ∀ j, j < k → rwI z j = rwI w j) (e29 : ∀ j, j ≤ k → dnI z j = dnI w j) (e30 : ∀ j, j ≤ k → z 30 j = w 30 j) : ∀ f, f ≤ k → ∀ l, l ≤ 1000 → ∃ r, swN z f (GS (pup (rwI w) k s) (k + 1 - f) f) (nI l) = nI r ∧ r ≤ l ∧
    (∀ f', f' < f → sub (GS (pup (rwI w) k s) (k + 1 - f') f') (qO w0 n P A H0 (dnI w f')) → svA hd n (GS (pup (rwI w) k s) (k + 1 - f') f') ≤ hhN → r ≤ spI w f' + svX dy n (GS (pup (rwI w) k s) (k + 1 - f') f')) ∧
    (r = l ∨ ∃ f', f' < f ∧ sub (GS (pup (rwI w) k s) (k + 1 - f') f') (qO w0 n P A H0 (dnI w f')) ∧ svA hd n (GS (pup (rwI w) k s) (k + 1 - f') f') ≤ hhN ∧ r = spI w f' + svX dy n (GS (pup (rwI w) k s) (k + 1 - f') f')) := by
  have hp := n256 h.1.1
  obtain ⟨te, tg, t30⟩ := t
  have hM := qM_is h hs
  intro f
  induction f with
  | zero => intro _ l _; exact ⟨l, rfl, Nat.le_refl _, fun f' q => by omega, Or.inl rfl⟩
  | succ f ih =>
    intro hf l hl
    have hdn : dnI w f < 2 ^ n := dn_lt (pf_pl h) tg (by omega)
    have hfull : dnI w f < 2 ^ n - 1 := not_full hdn (qM_is h (tg.2.2.1 f (by omega)).1).2.1 (qM_is h (tg.2.2.1 f (by omega)).1).1
    have hG : GS (pup (rwI w) k s) (k + 1 - f) f < 2 ^ n := GSp_lt h tg hM.2.1 (by omega)
    have hv := h.2.2.2.1 _ hG
    rw [swN, e28 f (by omega), e29 f (by omega), GSp_s _ _ (by omega), op_eq h ez hfull, e30 f (by omega), ez 24 (by decide) (by decide) (by decide), ez 25 (by decide) (by decide) (by decide), ez 22 (by decide) (by decide) (by decide), hv.1, hv.2, h.1.2.2.1]
    have hsp := sp_le (pf_pl h) tg f (by omega)
    have hlg := lgG_bd h (GS (pup (rwI w) k s) (k + 1 - f) f)
    by_cases q : sub (GS (pup (rwI w) k s) (k + 1 - f) f) (qO w0 n P A H0 (dnI w f)) ∧ svA hd n (GS (pup (rwI w) k s) (k + 1 - f) f) ≤ hhN
    · rw [if_pos ⟨(sub255 (by omega)).mpr q.1, (nI_le1 (hdG_bd h _) h.1.2.2.2).mpr q.2⟩, t30 f (by omega), nI_add, imin_nI (by omega) (by omega)]
      obtain ⟨r, r1, r2, r3, r4⟩ := ih (by omega) (min l (spI w f + svX dy n (GS (pup (rwI w) k s) (k + 1 - f) f))) (by omega)
      refine ⟨r, r1, by omega, fun f' a b c => ?_, ?_⟩
      · by_cases qf : f' = f
        · subst qf; omega
        · exact r3 f' (by omega) b c
      · rcases r4 with z | ⟨f', z1, z2⟩
        · by_cases q2 : l ≤ spI w f + svX dy n (GS (pup (rwI w) k s) (k + 1 - f) f)
          · left; omega
          · right; exact ⟨f, by omega, q.1, q.2, by omega⟩
        · right; exact ⟨f', by omega, z2⟩
    · rw [if_neg (fun g => q ⟨(sub255 (by omega)).mp g.1, (nI_le1 (hdG_bd h _) h.1.2.2.2).mp g.2⟩)]
      refine ⟨l, rfl, Nat.le_refl _, fun f' a b c => ?_, Or.inl rfl⟩
      exfalso
      apply q
      refine ⟨late h tg hs (f' := f') (f := f) (by omega) (by omega) b, ?_⟩
      have hG' : GS (pup (rwI w) k s) (k + 1 - f') f' < 2 ^ n := GSp_lt h tg hM.2.1 (by omega)
      have := svA_le hd n (GS (pup (rwI w) k s) (k + 1 - f) f) (GS (pup (rwI w) k s) (k + 1 - f') f') (fun u hu => by
        obtain ⟨i, i1, i2, i3⟩ := (GS_tb _ _ _).mp hu
        exact (GS_tb _ _ _).mpr ⟨i, by omega, by omega, i3⟩) hG'
      omega
end CH
