/-! the planner of the model: all rows -/
section MD3
variable {w : gIm} {n nh : Nat} {P A hd dy : Nat → Nat} {H0 hhN : Nat}
/-- the end has begun, and a step is left that may not come then -/
theorem mTr_dead (h : pf w n P A hd dy H0 hhN) (hk : ∀ s, s < n → w 17 s = 0 ∨ w 17 s = 1 ∨ w 17 s = 2) : ∀ m k up dnk led (en : Int32) (z : gIm), ¬ en = 0 → (∃ t, t < n ∧ ¬ w 17 t = 1 ∧ ¬ tb dnk t) → dnk < 2 ^ n → pcN n dnk = k → k + m = n → mi w n nh A hd dy hhN z →
    fr k (mTr n nh P A m k up dnk led en z) z ∧ mTr n nh P A m k up dnk led en z 40 41 = z 40 41 ∧ mTr n nh P A m k up dnk led en z 72 = z 72 := by
  intro m
  induction m with
  | zero =>
    intro k up dnk led en z _ ⟨t, t1, t2, t3⟩ hd hc hkm _
    have := pcN_full n dnk hd (by omega)
    exact absurd (by rw [this]; exact tb_full.mpr t1) t3
  | succ m ih =>
    intro k up dnk led en z hen ⟨t, t1, t2, t3⟩ hdn hc hkm hm
    rw [mTr]
    refine fo_inv (fun _ y => fr k y z ∧ y 40 41 = z 40 41 ∧ y 72 = z 72) n (fun s y hs hy => ?_) n 0 z (by omega) ⟨fr_refl k z, rfl, rfl⟩
    obtain ⟨y1, y2, y3⟩ := hy
    have hmy := mi_fr hm y1
    split
    · rename_i ho
      have h66 := (hmy.1 s hs).1
      -- the step is of the end
      have hs1 : w 17 s = 1 ∧ ¬ tb dnk s := by
        unfold okTr at ho
        rw [Bool.and_eq_true, Bool.and_eq_true, Bool.and_eq_true, Bool.and_eq_true, Bool.or_eq_true, decide_eq_true_eq, decide_eq_true_eq, decide_eq_true_eq, decide_eq_true_eq, h66] at ho
        exact ⟨ho.1.2.resolve_right hen, fun q => ho.1.1.1.1 (tb_div.mp q)⟩
      have hen2 : ¬ enN y P up en s = 0 := by
        unfold enN
        rw [if_pos (Or.inl hen)]
        decide
      have hor : dnk ||| 2 ^ s < 2 ^ n := Nat.or_lt_two_pow hdn (Nat.pow_lt_pow_right (by omega) hs)
      obtain ⟨i1, i2, i3⟩ := ih (k + 1) (thN y P up s) (dnk ||| 2 ^ s) (ldN y led s) (enN y P up en s) (up2 y 71 k (nI s)) hen2 ⟨t, t1, t2, fun q => by
        rcases tb_or.mp q with q | q
        · exact t3 q
        · rw [tb_two.mp q] at t2
          exact t2 hs1.1⟩ hor (by rw [pcN_in hdn hs hs1.2, hc]) (by omega) (mi_up hmy)
      refine ⟨fr_tr (fr_up i1) y1, ?_, ?_⟩
      · rw [i2, up2_ne _ _ _ (by decide)]; exact y2
      · rw [i3, up2_ne _ _ _ (by decide)]; exact y3
    · exact ⟨y1, y2, y3⟩
def btr (x : Int32) (v : Nat) : Prop := x < 0 ∨ nI v < x
theorem btr_mono {x : Int32} {u v : Nat} (h : btr x v) (hu : u ≤ v) (hv : v < 1000000) : btr x u := by
  rcases h with h | h
  · exact Or.inl h
  · right
    by_cases e : u = v
    · rw [e]; exact h
    · exact Int32.lt_trans ((nI_lt1 (by omega) hv).mpr (by omega)) h
theorem btr_nI {b v : Nat} (hb : b < 1000000) (hv : v < 1000000) : btr (nI b) v ↔ v < b := by
  constructor
  · rintro (h | h)
    · exact absurd h (nI_pos (by omega))
    · exact (nI_lt1 hv hb).mp h
  · intro h
    exact Or.inr ((nI_lt1 hv hb).mpr h)
theorem mTr_spec (h : pf w n P A hd dy H0 hhN) (hk : ∀ s, s < n → w 17 s = 0 ∨ w 17 s = 1 ∨ w 17 s = 2) (hh : ∀ s, s < n → hd s ≤ hhN) : ∀ m k up dnk led (en : Int32) (z : gIm) (q dn sp : Nat → Nat), k + m = n → gd (qM w n P A H0) (qO w n P A H0) (svA hd n) (svX dy n) hhN q dn sp k → (∀ j, j < k → z 71 j = nI (q j)) → dn k = dnk → up = (svH (mvN (w 17) P) H0 n dnk) → led = pc (dnk &&& (ldB (w 17) 0 n)) → (en = 0 ∨ allD w n dnk) → mi w n nh A hd dy hhN z → (z 40 41 = -1 ∨ ∃ b, b < 1000000 ∧ z 40 41 = nI b) → ∀ v, mn v (CD n (qO w n P A H0) (svA hd n) (svX dy n) hhN (qR w) q dn sp k) →
    fr k (mTr n nh P A m k up dnk led en z) z ∧ ((v < 1000000 ∧ btr (z 40 41) v) → mTr n nh P A m k up dnk led en z 40 41 = nI v ∧ ∃ q', bst n (qM w n P A H0) (qO w n P A H0) (svA hd n) (svX dy n) hhN (qR w) k v q q' ∧ ∀ j, j < n → mTr n nh P A m k up dnk led en z 72 j = nI (q' j)) ∧
    (¬ (v < 1000000 ∧ btr (z 40 41) v) → mTr n nh P A m k up dnk led en z 40 41 = z 40 41 ∧ ∀ j, j < n → mTr n nh P A m k up dnk led en z 72 j = z 72 j) := by
  have H := pf_pl h
  have h8 := h.1.1
  intro m
  induction m with
  | zero =>
    intro k up dnk led en z q dn sp hkm g h71 hdn _ _ _ hm hb v hv
    have e : k = n := by omega
    subst e
    have hq : ∀ j, j < k → rwM z j = q j := fun j hj => by
      unfold rwM
      rw [h71 j hj, nI_cl1 (by have := (qM_is h (g.2.2.1 j hj).1).2.1; omega)]
    have h73 := mDy_spec (nh := nh) h g hm hq
    have hsp := sp_le H g k (Nat.le_refl _)
    have ev : v = sp k := mn_eq hv (CD_end H g (dn_full H g) (by omega))
    have yne : ∀ c, c ≠ 73 → mDy (nI hhN) k z c = z c := fun c hc => by unfold mDy; rw [mDy_ne hc, up2_ne _ _ _ hc]
    have eb : mTr k nh P A 0 k up dnk led en z = mBest k nh z := rfl
    rw [eb]
    have cond : (¬ z 40 41 < 0 ∧ z 40 41 ≤ nI (sp k)) ↔ ¬ (v < 1000000 ∧ btr (z 40 41) v) := by
      rw [ev]
      constructor
      · rintro ⟨c1, c2⟩ ⟨-, c3 | c3⟩
        · exact c1 c3
        · exact Int32.lt_irrefl (Int32.lt_of_le_of_lt c2 c3)
      · intro c
        exact ⟨fun c1 => c ⟨by omega, Or.inl c1⟩, Int32.not_lt.mp (fun c1 => c ⟨by omega, Or.inr c1⟩)⟩
    unfold mBest
    rw [hm.2]
    dsimp only
    rw [h73, yne 40 (by decide), yne 71 (by decide), yne 72 (by decide)]
    by_cases c : ¬ z 40 41 < 0 ∧ z 40 41 ≤ nI (sp k)
    · rw [if_pos c]
      refine ⟨⟨fun c _ _ _ d => yne c d, fun j _ => by rw [yne 40 (by decide)], fun j _ => by rw [yne 71 (by decide)]⟩, fun g2 => absurd g2 (cond.mp c), fun _ => ⟨by rw [yne 40 (by decide)], fun j _ => by rw [yne 72 (by decide)]⟩⟩
    · rw [if_neg c]
      refine ⟨⟨fun d a b e f => ?_, fun j a => ?_, fun j a => ?_⟩, fun _ => ⟨?_, q, ⟨fun _ _ => rfl, dn, sp, g, fun j a b => by omega⟩, fun j a => ?_⟩, fun g2 => absurd (cond.mpr g2) c⟩
      · rw [va_up_ne _ _ e, up2_ne _ _ _ a, yne d f]
      · rw [va_up_ne _ _ (by decide), up2_get, if_neg (fun g => a g.2), yne 40 (by decide)]
      · rw [va_up_ne _ _ (by decide), up2_ne _ _ _ (by decide), yne 71 (by decide)]
      · rw [va_up_ne _ _ (by decide), up2_get, if_pos ⟨rfl, rfl⟩, ev]
      · rw [va_up_self]
        unfold fil
        rw [if_pos a]
        exact h71 j a
  | succ m ih =>
    intro k up dnk led en z q dn sp hkm g h71 hdn hu hl hen hm hb v hv
    have hkn : k < n := by omega
    have hdk : dnk < 2 ^ n := by rw [← hdn]; exact dn_lt H g (Nat.le_refl _)
    have hpc : pcN n dnk = k := by rw [← hdn]; exact pcN_dn H g k (Nat.le_refl _)
    rw [mTr]
    have J := fo_inv (fun s y => fr k y z ∧ (
        (y 40 41 = z 40 41 ∧ (∀ j, j < n → y 72 j = z 72 j) ∧ ∀ s', s' < s → qM w n P A H0 dnk s' → ∀ u, mn u (CD n (qO w n P A H0) (svA hd n) (svX dy n) hhN (qR w) (pup q k s') dn sp (k + 1)) → ¬ (u < 1000000 ∧ btr (z 40 41) u)) ∨
        (∃ s1 u1 q1, s1 < s ∧ qM w n P A H0 dnk s1 ∧ mn u1 (CD n (qO w n P A H0) (svA hd n) (svX dy n) hhN (qR w) (pup q k s1) dn sp (k + 1)) ∧ u1 < 1000000 ∧ btr (z 40 41) u1 ∧ y 40 41 = nI u1 ∧ bst n (qM w n P A H0) (qO w n P A H0) (svA hd n) (svX dy n) hhN (qR w) (k + 1) u1 (pup q k s1) q1 ∧ (∀ j, j < n → y 72 j = nI (q1 j)) ∧ (∀ s', s' < s1 → qM w n P A H0 dnk s' → ∀ u, mn u (CD n (qO w n P A H0) (svA hd n) (svX dy n) hhN (qR w) (pup q k s') dn sp (k + 1)) → u1 < u) ∧ ∀ s', s' < s → qM w n P A H0 dnk s' → ∀ u, mn u (CD n (qO w n P A H0) (svA hd n) (svX dy n) hhN (qR w) (pup q k s') dn sp (k + 1)) → u1 ≤ u)))
      (f := fun s y => if okTr y P A up dnk led en s = true then mTr n nh P A m (k + 1) (thN y P up s) (dnk ||| 2 ^ s) (ldN y led s) (enN y P up en s) (up2 y 71 k (nI s)) else y) n (fun s y hs hy => ?_) n 0 z (by omega) ⟨fr_refl k z, Or.inl ⟨rfl, fun _ _ => rfl, fun s' c => by omega⟩⟩
    · -- the end of the loop
      generalize fo (fun s y => if okTr y P A up dnk led en s = true then mTr n nh P A m (k + 1) (thN y P up s) (dnk ||| 2 ^ s) (ldN y led s) (enN y P up en s) (up2 y 71 k (nI s)) else y) n 0 z = y at *
      obtain ⟨y1, J⟩ := J
      refine ⟨y1, ?_⟩
      have at_ := fun hlt => V_at H g (dn_notfull H g hkn) hv hlt
      rw [hdn] at at_
      rcases J with ⟨j1, j2, j3⟩ | ⟨s1, u1, q1, j1, j2, j3, j4, j5, j6, j7, j8, j9, j10⟩
      · refine ⟨fun c => ?_, fun _ => ⟨j1, j2⟩⟩
        obtain ⟨s, s1, s2⟩ := at_ c.1
        exact absurd c (j3 s s1.1 s1 v s2)
      · have hle : v ≤ u1 := V_le H g hv (by rw [hdn]; exact j2) j3
        obtain ⟨s, a1, a2⟩ := at_ (by omega)
        have hge := j10 s a1.1 a1 v a2
        have e : u1 = v := by omega
        subst e
        refine ⟨fun _ => ⟨j6, q1, ?_, j8⟩, fun c => absurd ⟨j4, j5⟩ c⟩
        obtain ⟨b1, dn1, sp1, b2, b3⟩ := j7
        have hq1 : ∀ j, j < k → q1 j = q j := fun j hj => by
          rw [b1 j (by omega)]
          unfold pup
          rw [if_neg (by omega)]
        have hqk : q1 k = s1 := by
          rw [b1 k (by omega)]
          unfold pup
          rw [if_pos rfl]
        have zs := gd_same (k := k) (p' := q) (dn' := dn) (sp' := sp) ⟨b2.1, b2.2.1, fun j hj => b2.2.2.1 j (by omega), fun j a b => b2.2.2.2 j a (by omega)⟩ g k (Nat.le_refl _) hq1
        refine ⟨hq1, dn1, sp1, b2, fun j hj hjn => ?_⟩
        by_cases e : j = k
        · subst e
          refine ⟨mnCD_same (fun i hi => ?_) (fun f hf => ⟨(zs f (by omega)).1.symm, (zs f (by omega)).2.symm⟩) j3, fun s hs hmay g2 => ?_⟩
          · unfold pup
            by_cases e : i = j
            · rw [if_pos e, e, hqk]
            · rw [if_neg e, hq1 i (by omega)]
          · rw [hqk] at hs
            rw [(zs j (Nat.le_refl _)).1, hdn] at hmay
            have := j9 s hs hmay u1 (mnCD_same (fun i hi => by
              unfold pup
              by_cases e : i = j
              · rw [if_pos e, if_pos e]
              · rw [if_neg e, if_neg e, hq1 i (by omega)]) (fun f hf => zs f (by omega)) g2)
            omega
        · exact b3 j (by omega) hjn
    · -- one step
      obtain ⟨y1, J⟩ := hy
      have hmy := mi_fr hm y1
      have hoi := okTr_iff h hk hmy (up := up) (led := led) (en := en) hs hu hl
      have hqi := qM_iff h hk hh (S := dnk) hs
      by_cases hM : qM w n P A H0 dnk s
      · obtain ⟨hc, hc2⟩ := hqi.mp hM
        have hno := (qM_is h hM).1
        have hok : okTr y P A up dnk led en s = true := hoi.mpr ⟨hc, fun h1 => by
          rcases hen with e | e
          · exact e
          · exact absurd (e s hs h1) hno⟩
        obtain ⟨t1, t2, t3, t4, t5⟩ := th_is h hk hmy (en := en) hs hdk hu hl hc
        obtain ⟨sp', g', e'⟩ := gd_ext H g (s := s) (by rw [hdn]; exact hM)
        obtain ⟨u, hu'⟩ := mn_ex (CD n (qO w n P A H0) (svA hd n) (svX dy n) hhN (qR w) (pup q k s) dn sp (k + 1))
        have frm : ∀ i, i < k + 1 → pup dn (k + 1) (dn k ||| 2 ^ s) i = dn i ∧ sp' i = sp i := fun i hi => by
          refine ⟨?_, e' i (by omega)⟩
          unfold pup
          rw [if_neg (by omega)]
        have hbx : y 40 41 = -1 ∨ ∃ b, b < 1000000 ∧ y 40 41 = nI b := by
          rcases J with ⟨j1, -⟩ | ⟨s1, u1, q1, j1, j2, j3, j4, j5, j6, -⟩
          · rw [j1]; exact hb
          · exact Or.inr ⟨u1, j4, j6⟩
        have en2 : enN y P up en s = 0 ∨ allD w n (dnk ||| 2 ^ s) := by
          rcases t3 with e | e | ⟨e1, e2⟩
          · exact Or.inl e
          · right
            have := hen.resolve_left e
            exact fun t a b => tb_or.mpr (Or.inl (this t a b))
          · right
            have := (hc2 e1).resolve_left e2
            exact fun t a b => tb_or.mpr (Or.inl (this t a b))
        obtain ⟨i1, i2, i3⟩ := ih (k + 1) (thN y P up s) (dnk ||| 2 ^ s) (ldN y led s) (enN y P up en s) (up2 y 71 k (nI s)) (pup q k s) (pup dn (k + 1) (dn k ||| 2 ^ s)) sp' (by omega) g' (fun j hj => by
            rw [up2_get]
            unfold pup
            by_cases e : j = k
            · rw [if_pos ⟨rfl, e⟩, if_pos e]
            · rw [if_neg (fun g => e g.2), if_neg e, y1.2.2 j (by omega)]
              exact h71 j (by omega)) (by unfold pup; rw [if_pos rfl, hdn]) t1 t2 en2 (mi_up hmy) (by rw [up2_ne _ _ _ (by decide)]; exact hbx) u (mnCD_same (fun _ _ => rfl) (fun f hf => ⟨(frm f hf).1.symm, (frm f hf).2.symm⟩) hu')
        rw [up2_ne _ _ _ (show 40 ≠ 71 by decide)] at i2 i3
        rw [up2_ne _ _ _ (show 72 ≠ 71 by decide)] at i3
        rw [if_pos hok]
        generalize mTr n nh P A m (k + 1) (thN y P up s) (dnk ||| 2 ^ s) (ldN y led s) (enN y P up en s) (up2 y 71 k (nI s)) = x at *
        refine ⟨fr_tr (fr_up i1) y1, ?_⟩
        have new : u < 1000000 → btr (y 40 41) u → btr (z 40 41) u → (∀ s', s' < s → qM w n P A H0 dnk s' → ∀ u', mn u' (CD n (qO w n P A H0) (svA hd n) (svX dy n) hhN (qR w) (pup q k s') dn sp (k + 1)) → u < u') → ∃ s1 u1 q1, s1 < s + 1 ∧ qM w n P A H0 dnk s1 ∧ mn u1 (CD n (qO w n P A H0) (svA hd n) (svX dy n) hhN (qR w) (pup q k s1) dn sp (k + 1)) ∧ u1 < 1000000 ∧ btr (z 40 41) u1 ∧ x 40 41 = nI u1 ∧ bst n (qM w n P A H0) (qO w n P A H0) (svA hd n) (svX dy n) hhN (qR w) (k + 1) u1 (pup q k s1) q1 ∧ (∀ j, j < n → x 72 j = nI (q1 j)) ∧ (∀ s', s' < s1 → qM w n P A H0 dnk s' → ∀ u, mn u (CD n (qO w n P A H0) (svA hd n) (svX dy n) hhN (qR w) (pup q k s') dn sp (k + 1)) → u1 < u) ∧ ∀ s', s' < s + 1 → qM w n P A H0 dnk s' → ∀ u, mn u (CD n (qO w n P A H0) (svA hd n) (svX dy n) hhN (qR w) (pup q k s') dn sp (k + 1)) → u1 ≤ u := by
          intro c1 c2 c3 c4
          obtain ⟨k1, q1, k2, k3⟩ := i2 ⟨c1, c2⟩
          refine ⟨s, u, q1, by omega, hM, hu', c1, c3, k1, k2, k3, c4, fun s' a b u' c => ?_⟩
          by_cases e : s' = s
          · subst e
            rw [mn_eq hu' c]
            exact Nat.le_refl _
          · exact Nat.le_of_lt (c4 s' (by omega) b u' c)
        rcases J with ⟨j1, j2, j3⟩ | ⟨s1, u1, q1, j1, j2, j3, j4, j5, j6, j7, j8, j9, j10⟩
        · by_cases c : u < 1000000 ∧ btr (z 40 41) u
          · right
            refine new c.1 (by rw [j1]; exact c.2) c.2 (fun s' a b u' d => ?_)
            have := j3 s' a b u' d
            refine Classical.byContradiction (fun e => this ⟨by omega, btr_mono c.2 (by omega) c.1⟩)
          · left
            obtain ⟨k1, k2⟩ := i3 (by rw [j1]; exact c)
            refine ⟨k1.trans j1, fun j hj => (k2 j hj).trans (j2 j hj), fun s' a b u' d => ?_⟩
            by_cases e : s' = s
            · subst e
              rw [← mn_eq hu' d]
              exact c
            · exact j3 s' (by omega) b u' d
        · right
          by_cases c : u < 1000000 ∧ btr (y 40 41) u
          · have hlt : u < u1 := by
              have := c.2
              rw [j6] at this
              exact (btr_nI j4 c.1).mp this
            exact new c.1 c.2 (btr_mono j5 (by omega) j4) (fun s' a b u' d => by
              have := j10 s' a b u' d
              omega)
          · obtain ⟨k1, k2⟩ := i3 c
            have hge : u1 ≤ u := by
              refine Classical.byContradiction (fun e => c ⟨by omega, ?_⟩)
              rw [j6]
              exact (btr_nI j4 (by omega)).mpr (by omega)
            refine ⟨s1, u1, q1, by omega, j2, j3, j4, j5, k1.trans j6, j7, fun j hj => (k2 j hj).trans (j8 j hj), j9, fun s' a b u' d => ?_⟩
            by_cases e : s' = s
            · subst e
              rw [← mn_eq hu' d]
              exact hge
            · exact j10 s' (by omega) b u' d
      · -- a step that no row goes on with
        have keep : ∀ x : gIm, fr k x y → x 40 41 = y 40 41 → x 72 = y 72 → fr k x z ∧ (
            (x 40 41 = z 40 41 ∧ (∀ j, j < n → x 72 j = z 72 j) ∧ ∀ s', s' < s + 1 → qM w n P A H0 dnk s' → ∀ u, mn u (CD n (qO w n P A H0) (svA hd n) (svX dy n) hhN (qR w) (pup q k s') dn sp (k + 1)) → ¬ (u < 1000000 ∧ btr (z 40 41) u)) ∨
            (∃ s1 u1 q1, s1 < s + 1 ∧ qM w n P A H0 dnk s1 ∧ mn u1 (CD n (qO w n P A H0) (svA hd n) (svX dy n) hhN (qR w) (pup q k s1) dn sp (k + 1)) ∧ u1 < 1000000 ∧ btr (z 40 41) u1 ∧ x 40 41 = nI u1 ∧ bst n (qM w n P A H0) (qO w n P A H0) (svA hd n) (svX dy n) hhN (qR w) (k + 1) u1 (pup q k s1) q1 ∧ (∀ j, j < n → x 72 j = nI (q1 j)) ∧ (∀ s', s' < s1 → qM w n P A H0 dnk s' → ∀ u, mn u (CD n (qO w n P A H0) (svA hd n) (svX dy n) hhN (qR w) (pup q k s') dn sp (k + 1)) → u1 < u) ∧ ∀ s', s' < s + 1 → qM w n P A H0 dnk s' → ∀ u, mn u (CD n (qO w n P A H0) (svA hd n) (svX dy n) hhN (qR w) (pup q k s') dn sp (k + 1)) → u1 ≤ u)) := by
          intro x x1 x2 x3
          refine ⟨fr_tr x1 y1, ?_⟩
          rw [x2, x3]
          rcases J with ⟨j1, j2, j3⟩ | ⟨s1, u1, q1, j1, j2, j3, j4, j5, j6, j7, j8, j9, j10⟩
          · refine Or.inl ⟨j1, j2, fun s' a b u' d => ?_⟩
            by_cases e : s' = s
            · subst e; exact absurd b hM
            · exact j3 s' (by omega) b u' d
          · refine Or.inr ⟨s1, u1, q1, by omega, j2, j3, j4, j5, j6, j7, j8, j9, fun s' a b u' d => ?_⟩
            by_cases e : s' = s
            · subst e; exact absurd b hM
            · exact j10 s' (by omega) b u' d
        by_cases hok : okTr y P A up dnk led en s = true
        · rw [if_pos hok]
          obtain ⟨hc, hc0⟩ := hoi.mp hok
          have hk1 : w 17 s = 1 := Classical.byContradiction (fun e => hM (hqi.mpr ⟨hc, fun e2 => absurd e2 e⟩))
          have hn1 : ¬ twoP w n P H0 dnk s := fun e => hM (hqi.mpr ⟨hc, fun _ => Or.inl e⟩)
          have hn2 : ¬ allD w n dnk := fun e => hM (hqi.mpr ⟨hc, fun _ => Or.inr e⟩)
          obtain ⟨t1, t2, t3, t4, t5⟩ := th_is h hk hmy (en := en) hs hdk hu hl hc
          have hex : ∃ t, t < n ∧ ¬ w 17 t = 1 ∧ ¬ tb (dnk ||| 2 ^ s) t := by
            refine Classical.byContradiction (fun e => hn2 (fun t a b => Classical.byContradiction (fun c => e ⟨t, a, b, fun d => ?_⟩)))
            rcases tb_or.mp d with d | d
            · exact c d
            · rw [tb_two.mp d] at b
              exact b hk1
          obtain ⟨i1, i2, i3⟩ := mTr_dead h hk m (k + 1) (thN y P up s) (dnk ||| 2 ^ s) (ldN y led s) (enN y P up en s) (up2 y 71 k (nI s)) (t5 hk1 hn1) hex (Nat.or_lt_two_pow hdk (Nat.pow_lt_pow_right (by omega) hs)) (by rw [pcN_in hdk hs hc.1, hpc]) (by omega) (mi_up hmy)
          refine keep _ (fr_up i1) ?_ ?_
          · rw [i2, up2_ne _ _ _ (by decide)]
          · rw [i3, up2_ne _ _ _ (by decide)]
        · rw [if_neg hok]
          exact keep y (fr_refl k y) rfl rfl
end MD3
