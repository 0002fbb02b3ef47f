/-! the planner: the row of the class -/
section CH2
variable {w w0 : gIm} {n : Nat} {P A hd dy : Nat → Nat} {H0 hhN k : Nat}
theorem fb_spec (w : gIm) (ld tn : Nat) (P A H : Nat → Nat) (k : Nat) : ∀ m a, ((∃ s, s < m ∧ mayI w ld tn P A H (dnI w k) s = true ∧ dwI w k s = w 26 0) → fbN w ld tn P A H k m a < m ∧ (mayI w ld tn P A H (dnI w k) (fbN w ld tn P A H k m a) = true ∧ dwI w k (fbN w ld tn P A H k m a) = w 26 0) ∧ ∀ s, s < fbN w ld tn P A H k m a → ¬ (mayI w ld tn P A H (dnI w k) s = true ∧ dwI w k s = w 26 0)) ∧
    ((¬ ∃ s, s < m ∧ mayI w ld tn P A H (dnI w k) s = true ∧ dwI w k s = w 26 0) → fbN w ld tn P A H k m a = a)
  | 0, a => ⟨fun ⟨s, h, _⟩ => by omega, fun _ => rfl⟩
  | m + 1, a => by
    rw [fbN]
    obtain ⟨i1, i2⟩ := fb_spec w ld tn P A H k m (if mayI w ld tn P A H (dnI w k) m = true ∧ dwI w k m = w 26 0 then m else a)
    by_cases q : ∃ s, s < m ∧ mayI w ld tn P A H (dnI w k) s = true ∧ dwI w k s = w 26 0
    · obtain ⟨j1, j2, j3⟩ := i1 q
      refine ⟨fun _ => ⟨by omega, j2, j3⟩, fun g => ?_⟩
      obtain ⟨s, s1, s2⟩ := q
      exact absurd ⟨s, by omega, s2⟩ g
    · rw [i2 q]
      by_cases c : mayI w ld tn P A H (dnI w k) m = true ∧ dwI w k m = w 26 0
      · rw [if_pos c]
        exact ⟨fun _ => ⟨by omega, c, fun s hs g => q ⟨s, hs, g⟩⟩, fun g => absurd ⟨m, by omega, c⟩ g⟩
      · rw [if_neg c]
        refine ⟨fun ⟨s, s1, s2⟩ => ?_, fun _ => rfl⟩
        by_cases e : s = m
        · subst e; exact absurd s2 c
        · exact absurd ⟨s, by omega, s2⟩ q
theorem cond_iff (h : pf w0 n P A hd dy H0 hhN) (t : tbl w w0 n P A hd dy H0 hhN k) (hk : k < n) (hR : qR w0 0 < 1000000) {s : Nat} (hs : s < n) : (mayI w (ldB (w0 17) 0 n) (ldB (w0 17) 2 n) P A (svH (mvN (w0 17) P) H0 n) (dnI w k) s = true ∧ dwI w k s = w 26 0) ↔ (qM w0 n P A H0 (dnI w k) s ∧ mn (qR w0 0) (CD n (qO w0 n P A H0) (svA hd n) (svX dy n) hhN (qR w0) (pup (rwI w) k s) (dnI w) (spI w) (k + 1))) := by
  have h8 := h.1.1
  have e0 := qR_all h (2 ^ n) 0 (Nat.two_pow_pos n) (Nat.sub_le _ _)
  rw [may_eq t.1, t.1 26 (by decide) (by decide) (by decide), e0.1]
  constructor
  · rintro ⟨g1, g2⟩
    have hM : qM w0 n P A H0 (dnI w k) s := ⟨hs, g1⟩
    obtain ⟨r, r1, r2, r3⟩ := dwI_spec h t hM (by omega)
    rw [r1] at g2
    have := (nI_eq (by omega) (by omega)).mp g2
    subst this
    rw [Nat.min_eq_right (by omega)] at r3
    exact ⟨hM, r3⟩
  · rintro ⟨g1, g2⟩
    obtain ⟨r, r1, r2, r3⟩ := dwI_spec h t g1 (by omega)
    have := mn_eq r3 g2
    refine ⟨g1.2, ?_⟩
    rw [r1]
    congr 1
    omega
theorem ch_step (h : pf w0 n P A hd dy H0 hhN) (t : tbl w w0 n P A hd dy H0 hhN k) (hk : k < n) (h28 : ∀ j, j < k → w 28 j = nI (rwI w j)) {f : Nat} (hf : fbN w (ldB (w0 17) 0 n) (ldB (w0 17) 2 n) P A (svH (mvN (w0 17) P) H0 n) k n 0 = f) (hs : qM w0 n P A H0 (dnI w k) f) : ∃ v, rwI (xCh1 n (ldB (w0 17) 0 n) (ldB (w0 17) 2 n) P A (svH (mvN (w0 17) P) H0 n) k w) = pup (rwI w) k f ∧ dnI (xCh1 n (ldB (w0 17) 0 n) (ldB (w0 17) 2 n) P A (svH (mvN (w0 17) P) H0 n) k w) = pup (dnI w) (k + 1) (dnI w k ||| 2 ^ f) ∧ spI (xCh1 n (ldB (w0 17) 0 n) (ldB (w0 17) 2 n) P A (svH (mvN (w0 17) P) H0 n) k w) = pup (spI w) (k + 1) v ∧ tbl (xCh1 n (ldB (w0 17) 0 n) (ldB (w0 17) 2 n) P A (svH (mvN (w0 17) P) H0 n) k w) w0 n P A hd dy H0 hhN (k + 1) ∧ ∀ j, j < k + 1 → xCh1 n (ldB (w0 17) 0 n) (ldB (w0 17) 2 n) P A (svH (mvN (w0 17) P) H0 n) k w 28 j = nI (rwI (xCh1 n (ldB (w0 17) 0 n) (ldB (w0 17) 2 n) P A (svH (mvN (w0 17) P) H0 n) k w) j) := by
  have h8 := h.1.1
  have hp := n256 h8
  have hM := qM_is h hs
  have te := t.1
  have tg := t.2.1
  have hdn : dnI w k < 2 ^ n := dn_lt (pf_pl h) tg (Nat.le_refl _)
  have h2f : 2 ^ f < 2 ^ n := Nat.pow_lt_pow_right (by omega) hM.2.1
  have hor : dnI w k ||| 2 ^ f < 2 ^ n := Nat.or_lt_two_pow hdn h2f
  have eG : GS (pup (rwI w) k f) (k + 1 - k) k = 2 ^ f := by
    rw [show k + 1 - k = 1 by omega, GS, GS, Nat.zero_or]
    unfold pup
    rw [if_pos rfl]
  generalize hz : up2 (up2 w 28 k (nI f)) 29 (k + 1) (nI (dnI w k ||| 2 ^ f)) = z
  have zx : xCh1 n (ldB (w0 17) 0 n) (ldB (w0 17) 2 n) P A (svH (mvN (w0 17) P) H0 n) k w = up2 z 30 (k + 1) (swI z k) := by
    unfold xCh1
    rw [hf, ← hz]
  have z28 : ∀ j, z 28 j = if j = k then nI f else w 28 j := by
    intro j
    rw [← hz, up2_ne _ _ _ (by decide), up2_get]
    by_cases q : j = k
    · rw [if_pos ⟨rfl, q⟩, if_pos q]
    · rw [if_neg (fun g => q g.2), if_neg q]
  have z29 : ∀ j, z 29 j = if j = k + 1 then nI (dnI w k ||| 2 ^ f) else w 29 j := by
    intro j
    rw [← hz, up2_get, up2_ne _ _ _ (show 29 ≠ 28 by decide)]
    by_cases q : j = k + 1
    · rw [if_pos ⟨rfl, q⟩, if_pos q]
    · rw [if_neg (fun g => q g.2), if_neg q]
  have zo : ∀ c, c ≠ 28 → c ≠ 29 → z c = w c := fun c a b => by rw [← hz, up2_ne _ _ _ b, up2_ne _ _ _ a]
  have ez : eqX z w0 := fun c a b d => (zo c a b).trans (te c a b d)
  have hspk := sp_le (pf_pl h) tg k (Nat.le_refl _)
  have hv := h.2.2.2.1 _ h2f
  have hlg := lgG_bd h (2 ^ f)
  obtain ⟨r, r1, r2, r3, r4⟩ := swN_spec h t hs (by omega) z ez (fun j hj => by unfold rwI; rw [z28, if_neg (by omega)]) (fun j hj => by unfold dnI; rw [z29, if_neg (by omega)]) (fun j hj => by rw [zo 30 (by decide) (by decide)]) k (Nat.le_refl _) (spI w k + svX dy n (2 ^ f)) (by omega)
  rw [eG] at r1
  have esw : swI z k = nI r := by
    unfold swI
    rw [show rwI z k = f from by unfold rwI; rw [z28, if_pos rfl, nI_cl1 (by omega)], zo 30 (by decide) (by decide), zo 25 (by decide) (by decide), te 25 (by decide) (by decide) (by decide), t.2.2 k (Nat.le_refl _), hv.2, nI_add]
    exact r1
  rw [zx, esw]
  have y28 : up2 z 30 (k + 1) (nI r) 28 = z 28 := up2_ne _ _ _ (by decide)
  have y29 : up2 z 30 (k + 1) (nI r) 29 = z 29 := up2_ne _ _ _ (by decide)
  have y30 : ∀ j, up2 z 30 (k + 1) (nI r) 30 j = if j = k + 1 then nI r else w 30 j := by
    intro j
    rw [up2_get, zo 30 (by decide) (by decide)]
    by_cases q : j = k + 1
    · rw [if_pos ⟨rfl, q⟩, if_pos q]
    · rw [if_neg (fun g => q g.2), if_neg q]
  have p1 : rwI (up2 z 30 (k + 1) (nI r)) = pup (rwI w) k f := by
    funext j
    unfold rwI pup
    rw [y28, z28]
    by_cases q : j = k
    · rw [if_pos q, if_pos q, nI_cl1 (by omega)]
    · rw [if_neg q, if_neg q]
  have p2 : dnI (up2 z 30 (k + 1) (nI r)) = pup (dnI w) (k + 1) (dnI w k ||| 2 ^ f) := by
    funext j
    unfold pup
    by_cases q : j = k + 1
    · rw [if_pos q]
      show (up2 z 30 (k + 1) (nI r) 29 j).toNatClampNeg = _
      rw [y29, z29, if_pos q, nI_cl1 (by omega)]
    · rw [if_neg q]
      show (up2 z 30 (k + 1) (nI r) 29 j).toNatClampNeg = (w 29 j).toNatClampNeg
      rw [y29, z29, if_neg q]
  have p3 : spI (up2 z 30 (k + 1) (nI r)) = pup (spI w) (k + 1) r := by
    funext j
    unfold spI pup
    rw [y30]
    by_cases q : j = k + 1
    · rw [if_pos q, if_pos q, nI_cl1 (by omega)]
    · rw [if_neg q, if_neg q]
  refine ⟨r, p1, p2, p3, ⟨?_, ?_, fun j hj => ?_⟩, fun j hj => ?_⟩
  · intro c a b d
    rw [up2_ne _ _ _ d]
    exact ez c a b d
  · rw [p1, p2, p3]
    refine gd_ext2 tg hs (fun c hc => ?_) ?_
    · obtain ⟨f', f1, f2, f3, f4⟩ := hc
      by_cases q : f' = k
      · subst q
        rw [eG] at f4
        omega
      · have := r3 f' (by omega) (f2.resolve_left (by omega)) f3
        omega
    · rcases r4 with q | ⟨f', f1, f2, f3, f4⟩
      · exact ⟨k, by omega, Or.inl rfl, by rw [eG, svA_two hM.2.1]; exact hM.2.2.2, by rw [eG]; exact q⟩
      · exact ⟨f', by omega, Or.inr f2, f3, f4⟩
  · rw [p3, y30]
    unfold pup
    by_cases q : j = k + 1
    · rw [if_pos q, if_pos q]
    · rw [if_neg q, if_neg q]; exact t.2.2 j (by omega)
  · rw [p1, y28, z28]
    unfold pup
    by_cases q : j = k
    · rw [if_pos q, if_pos q]
    · rw [if_neg q, if_neg q]; exact h28 j (by omega)
theorem ch_all (h : pf w0 n P A hd dy H0 hhN) (hR : qR w0 0 < 1000000) : ∀ m k (w : gIm), k + m = n → tbl w w0 n P A hd dy H0 hhN k → (∀ j, j < k → w 28 j = nI (rwI w j)) → mn (qR w0 0) (CD n (qO w0 n P A H0) (svA hd n) (svX dy n) hhN (qR w0) (rwI w) (dnI w) (spI w) k) →
    tbl (fo (xCh1 n (ldB (w0 17) 0 n) (ldB (w0 17) 2 n) P A (svH (mvN (w0 17) P) H0 n)) m k w) w0 n P A hd dy H0 hhN n ∧ (∀ j, j < n → fo (xCh1 n (ldB (w0 17) 0 n) (ldB (w0 17) 2 n) P A (svH (mvN (w0 17) P) H0 n)) m k w 28 j = nI (rwI (fo (xCh1 n (ldB (w0 17) 0 n) (ldB (w0 17) 2 n) P A (svH (mvN (w0 17) P) H0 n)) m k w) j)) ∧ (∀ j, j < k → rwI (fo (xCh1 n (ldB (w0 17) 0 n) (ldB (w0 17) 2 n) P A (svH (mvN (w0 17) P) H0 n)) m k w) j = rwI w j) ∧
    ∀ j, k ≤ j → j < n → mn (qR w0 0) (CD n (qO w0 n P A H0) (svA hd n) (svX dy n) hhN (qR w0) (rwI (fo (xCh1 n (ldB (w0 17) 0 n) (ldB (w0 17) 2 n) P A (svH (mvN (w0 17) P) H0 n)) m k w)) (dnI (fo (xCh1 n (ldB (w0 17) 0 n) (ldB (w0 17) 2 n) P A (svH (mvN (w0 17) P) H0 n)) m k w)) (spI (fo (xCh1 n (ldB (w0 17) 0 n) (ldB (w0 17) 2 n) P A (svH (mvN (w0 17) P) H0 n)) m k w)) (j + 1)) ∧ ∀ s, s < rwI (fo (xCh1 n (ldB (w0 17) 0 n) (ldB (w0 17) 2 n) P A (svH (mvN (w0 17) P) H0 n)) m k w) j → qM w0 n P A H0 (dnI (fo (xCh1 n (ldB (w0 17) 0 n) (ldB (w0 17) 2 n) P A (svH (mvN (w0 17) P) H0 n)) m k w) j) s → ¬ mn (qR w0 0) (CD n (qO w0 n P A H0) (svA hd n) (svX dy n) hhN (qR w0) (pup (rwI (fo (xCh1 n (ldB (w0 17) 0 n) (ldB (w0 17) 2 n) P A (svH (mvN (w0 17) P) H0 n)) m k w)) j s) (dnI (fo (xCh1 n (ldB (w0 17) 0 n) (ldB (w0 17) 2 n) P A (svH (mvN (w0 17) P) H0 n)) m k w)) (spI (fo (xCh1 n (ldB (w0 17) 0 n) (ldB (w0 17) 2 n) P A (svH (mvN (w0 17) P) H0 n)) m k w)) (j + 1)) := by
  intro m
  induction m with
  | zero =>
    intro k w hk t h28 _
    have e : k = n := by omega
    subst e
    exact ⟨t, h28, fun j _ => rfl, fun j a b => by omega⟩
  | succ m ih =>
    intro k w hk t h28 hv
    have hkn : k < n := by omega
    obtain ⟨s, s1, s2⟩ := V_at (pf_pl h) t.2.1 (dn_notfull (pf_pl h) t.2.1 hkn) hv hR
    have ex : ∃ s, s < n ∧ mayI w (ldB (w0 17) 0 n) (ldB (w0 17) 2 n) P A (svH (mvN (w0 17) P) H0 n) (dnI w k) s = true ∧ dwI w k s = w 26 0 := ⟨s, s1.1, (cond_iff h t hkn hR s1.1).mpr ⟨s1, s2⟩⟩
    obtain ⟨b1, b2, b3⟩ := (fb_spec w (ldB (w0 17) 0 n) (ldB (w0 17) 2 n) P A (svH (mvN (w0 17) P) H0 n) k n 0).1 ex
    generalize hf : fbN w (ldB (w0 17) 0 n) (ldB (w0 17) 2 n) P A (svH (mvN (w0 17) P) H0 n) k n 0 = f at *
    obtain ⟨c1, c2⟩ := (cond_iff h t hkn hR b1).mp b2
    obtain ⟨v, e1, e2, e3, t', h28'⟩ := ch_step h t hkn h28 hf c1
    have fr : ∀ i, i < k + 1 → pup (dnI w) (k + 1) (dnI w k ||| 2 ^ f) i = dnI w i ∧ pup (spI w) (k + 1) v i = spI w i := fun i hi => by
      unfold pup
      rw [if_neg (by omega), if_neg (by omega)]
      exact ⟨rfl, rfl⟩
    have IH := ih (k + 1) (xCh1 n (ldB (w0 17) 0 n) (ldB (w0 17) 2 n) P A (svH (mvN (w0 17) P) H0 n) k w) (by omega) t' h28' (by
      rw [e1, e2, e3]
      exact mnCD_same (fun i hi => rfl) (fun i hi => ⟨(fr i hi).1.symm, (fr i hi).2.symm⟩) c2)
    rw [fo_s]
    generalize fo (xCh1 n (ldB (w0 17) 0 n) (ldB (w0 17) 2 n) P A (svH (mvN (w0 17) P) H0 n)) m (k + 1) (xCh1 n (ldB (w0 17) 0 n) (ldB (w0 17) 2 n) P A (svH (mvN (w0 17) P) H0 n) k w) = z at *
    obtain ⟨i1, i2, i3, i4⟩ := IH
    rw [e1] at i3
    have zp : ∀ j, j < k → rwI z j = rwI w j := fun j hj => by
      rw [i3 j (by omega)]
      unfold pup
      rw [if_neg (by omega)]
    have zk : rwI z k = f := by
      rw [i3 k (by omega)]
      unfold pup
      rw [if_pos rfl]
    have zs := gd_same (k := k) (p' := rwI w) (dn' := dnI w) (sp' := spI w) ⟨i1.2.1.1, i1.2.1.2.1, fun j hj => i1.2.1.2.2.1 j (by omega), fun j a b => i1.2.1.2.2.2 j a (by omega)⟩ t.2.1 k (Nat.le_refl _) zp
    refine ⟨i1, i2, zp, fun j hj hjn => ?_⟩
    by_cases q : j = k
    · subst q
      refine ⟨mnCD_same (p := pup (rwI w) j f) (dn := dnI w) (sp := spI w) (fun i hi => ?_) (fun i hi => ⟨(zs i (by omega)).1.symm, (zs i (by omega)).2.symm⟩) c2, fun s hs hm g => ?_⟩
      · unfold pup
        by_cases e : i = j
        · rw [if_pos e, e, zk]
        · rw [if_neg e, zp i (by omega)]
      · rw [zk] at hs
        rw [(zs j (Nat.le_refl _)).1] at hm
        refine b3 s hs ((cond_iff h t hkn hR hm.1).mpr ⟨hm, mnCD_same (fun i hi => ?_) (fun i hi => zs i (by omega)) g⟩)
        unfold pup
        by_cases e : i = j
        · rw [if_pos e, if_pos e]
        · rw [if_neg e, if_neg e, zp i (by omega)]
    · exact i4 j (by omega) hjn
end CH2
