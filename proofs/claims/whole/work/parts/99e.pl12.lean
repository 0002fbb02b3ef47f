/-! calls of both: plan -/
theorem mayM_spec {z : gIm} {hh : Int32} {n : Nat} : (mayM z hh n = 0 ∧ ∃ s, s < n ∧ ¬ z 69 s ≤ hh) ∨ (mayM z hh n = 1 ∧ ∀ s, s < n → z 69 s ≤ hh) := by
  unfold mayM
  refine fo_inv (fun i t => (t = 0 ∧ ∃ s, s < i ∧ ¬ z 69 s ≤ hh) ∨ (t = 1 ∧ ∀ s, s < i → z 69 s ≤ hh)) n (fun i t hi ht => ?_) n 0 1 (by omega) (Or.inr ⟨rfl, fun s hs => by omega⟩)
  rcases ht with ⟨h1, s, h2, h3⟩ | ⟨h1, h2⟩
  · rw [if_neg (fun g => g.1 h1)]
    exact Or.inl ⟨rfl, s, by omega, h3⟩
  · by_cases g : z 69 i ≤ hh
    · rw [if_pos ⟨by rw [h1]; decide, g⟩]
      refine Or.inr ⟨rfl, fun s hs => ?_⟩
      by_cases e : s = i
      · subst e; exact g
      · exact h2 s (by omega)
    · rw [if_neg (fun q => g q.2)]
      exact Or.inl ⟨rfl, i, by omega, g⟩
theorem mTr_ne (ns nh : Nat) (P A : Nat → Nat) : ∀ m k up dn led (en : Int32) (z : gIm), (∀ c, c ≠ 40 → c ≠ 71 → c ≠ 72 → c ≠ 73 → mTr ns nh P A m k up dn led en z c = z c) ∧ ∀ j, j ≠ 41 → mTr ns nh P A m k up dn led en z 40 j = z 40 j
  | 0, _, _, _, _, _, z => ⟨fun c a b d e => mBest_ne ⟨d, e, a⟩, fun j a => mBest_40 a⟩
  | m + 1, k, up, dn, led, en, z => by
    rw [mTr]
    refine fo_inv (fun _ y => (∀ c, c ≠ 40 → c ≠ 71 → c ≠ 72 → c ≠ 73 → y c = z c) ∧ ∀ j, j ≠ 41 → y 40 j = z 40 j) ns (fun s y _ hy => ?_) ns 0 z (by omega) ⟨fun _ _ _ _ _ => rfl, fun _ _ => rfl⟩
    split
    · obtain ⟨i1, i2⟩ := mTr_ne ns nh P A m (k + 1) (thN y P up s) (dn ||| 2 ^ s) (ldN y led s) (enN y P up en s) (up2 y 71 k (nI s))
      refine ⟨fun c a b d e => ?_, fun j a => ?_⟩
      · rw [i1 c a b d e, up2_ne _ _ _ b]; exact hy.1 c a b d e
      · rw [i2 j a, up2_ne _ _ _ (by decide)]; exact hy.2 j a
    · exact hy
theorem mPl_ne (ns nh : Nat) (P A : Nat → Nat) (z : gIm) : (∀ c, c ≠ 40 → c ≠ 71 → c ≠ 72 → c ≠ 73 → mPlans ns nh P A z c = z c) ∧ ∀ j, j ≠ 41 → mPlans ns nh P A z 40 j = z 40 j := by
  unfold mPlans
  have u : (∀ c, c ≠ 40 → up2 z 40 41 (-1) c = z c) ∧ ∀ j, j ≠ 41 → up2 z 40 41 (-1) 40 j = z 40 j := ⟨fun c a => up2_ne _ _ _ a, fun j a => by rw [up2_get, if_neg (fun g => a g.2)]⟩
  split
  · exact ⟨fun c a _ _ _ => u.1 c a, u.2⟩
  · obtain ⟨i1, i2⟩ := mTr_ne ns nh P A ns 0 (upM z) 0 0 0 (up2 z 40 41 (-1))
    exact ⟨fun c a b d e => (i1 c a b d e).trans (u.1 c a), fun j a => (i2 j a).trans (u.2 j a)⟩
section FIN
variable {ι : gIm} {n : Nat} {P A hd dy : Nat → Nat} {H0 hhN : Nat}
theorem plan_core (h : cin ι n P A hd dy H0 hhN) (hk3 : ∀ s, s < n → ι 17 s = 0 ∨ ι 17 s = 1 ∨ ι 17 s = 2) (z : gIm) (nh : Nat) (hr : ∀ s, s < n → z 66 s = ι 17 s ∧ z 68 s = ι 19 s ∧ z 69 s = ι 20 s ∧ z 70 s = nI (A s)) (hup : upM z = H0) (hh : sHands (z 50) (z 44) nh = nI hhN) :
    vDays (xPl2 n (ldB (ι 17) 0 n) (ldB (ι 17) 2 n) P A (svH (mvN (ι 17) P) H0 n) (xMe n (ldB (ι 17) 0 n) (ldB (ι 17) 2 n) P A (svH (mvN (ι 17) P) H0 n) (xSu P n (xSee0 ι (nI H0) (nI hhN) n)))) = vDaysM (mPlans n nh P A z) ∧ ∀ k, vStep (xPl2 n (ldB (ι 17) 0 n) (ldB (ι 17) 2 n) P A (svH (mvN (ι 17) P) H0 n) (xMe n (ldB (ι 17) 0 n) (ldB (ι 17) 2 n) P A (svH (mvN (ι 17) P) H0 n) (xSu P n (xSee0 ι (nI H0) (nI hhN) n)))) k = vStepM (mPlans n nh P A z) k (nI n) := by
  obtain ⟨hpf, ⟨w17, w22⟩, hR, ⟨⟨z1, z2, z3, z4⟩, z5⟩, hne⟩ := cin_me h
  have y9 : (xMe n (ldB (ι 17) 0 n) (ldB (ι 17) 2 n) P A (svH (mvN (ι 17) P) H0 n) (xSu P n (xSee0 ι (nI H0) (nI hhN) n))) 22 9 = nI n := by
    rw [w22, (su_all h).2.2 9 (by decide) (by decide), see_22, if_pos rfl]
  have h8 := h.1.1
  have hD := h.2.1
  generalize hw : (xMe n (ldB (ι 17) 0 n) (ldB (ι 17) 2 n) P A (svH (mvN (ι 17) P) H0 n) (xSu P n (xSee0 ι (nI H0) (nI hhN) n))) = w at *
  have hz : xPl2 n (ldB (ι 17) 0 n) (ldB (ι 17) 2 n) P A (svH (mvN (ι 17) P) H0 n) w = xPl2 n (ldB (w 17) 0 n) (ldB (w 17) 2 n) P A (svH (mvN (w 17) P) H0 n) w := by rw [w17]
  obtain ⟨r1, r2, -⟩ := cls_row hpf y9 z3 z4 hz
  generalize xPl2 n (ldB (ι 17) 0 n) (ldB (ι 17) 2 n) P A (svH (mvN (ι 17) P) H0 n) w = Zc at *
  have H := pf_pl hpf
  have hk : ∀ s, s < n → w 17 s = 0 ∨ w 17 s = 1 ∨ w 17 s = 2 := by rw [w17]; exact hk3
  have hm0 : mi w n nh A hd dy hhN (up2 z 40 41 (-1)) := by
    unfold mi
    rw [up2_ne _ _ _ (by decide), up2_ne _ _ _ (by decide), up2_ne _ _ _ (by decide), up2_ne _ _ _ (by decide), up2_ne _ _ _ (by decide), up2_ne _ _ _ (by decide), w17]
    refine ⟨fun s hs => ?_, hh⟩
    obtain ⟨g1, g2, g3, g4⟩ := hr s hs
    obtain ⟨d1, d2, d3, d4, d5⟩ := hD s hs
    exact ⟨g1, by rw [g2]; exact d4, by rw [g3]; exact d2, g4⟩
  have v0 : mn (qR w 0) (CD n (qO w n P A H0) (svA hd n) (svX dy n) hhN (qR w) (fun _ => 0) (fun _ => 0) (fun _ => 0) 0) := by
    have e0 := qR_all hpf (2 ^ n) 0 (Nat.two_pow_pos n) (Nat.sub_le _ _)
    refine ⟨e0.2.1, fun c hc => ?_, Or.inr (Or.inl ⟨rfl, rfl⟩)⟩
    rcases hc with ⟨-, hc⟩ | ⟨f, G, hf, -⟩
    · omega
    · omega
  have g0 : gd (qM w n P A H0) (qO w n P A H0) (svA hd n) (svX dy n) hhN (fun _ => 0) (fun _ => 0) (fun _ => 0) 0 := ⟨rfl, rfl, fun j hj => by omega, fun j a b => by omega⟩
  have b41 : up2 z 40 41 (-1) 40 41 = -1 := by rw [up2_get, if_pos ⟨rfl, rfl⟩]
  have none_ : ∀ y : gIm, y 40 41 = -1 → vDaysM y = -9 ∧ ∀ k, vStepM y k (nI n) = -9 := by
    intro y hy
    unfold vDaysM vStepM
    rw [hy]
    exact ⟨by rw [if_pos (by decide)], fun k => by rw [if_neg (fun g => g.1 (by decide))]⟩
  unfold mPlans
  rcases mayM_spec (z := z) (hh := sHands (z 50) (z 44) nh) (n := n) with ⟨e, t, t1, t2⟩ | ⟨e, hall⟩
  · rw [if_pos e]
    have hno : ¬ qR w 0 < 1000000 := V_none H t1 (fun S g => by
      have := (qM_is hpf g).2.2.2
      rw [hh, (hr t t1).2.2.1, (hD t t1).2.1, nI_le1 (by have := (hD t t1).2.2.1; omega) hpf.1.2.2.2] at t2
      exact t2 this) n 0 _ _ _ (by omega) g0 _ v0
    obtain ⟨c1, c2⟩ := r2 hno
    obtain ⟨d1, d2⟩ := none_ _ b41
    exact ⟨c1.trans d1.symm, fun k => (c2 k).trans (d2 k).symm⟩
  · rw [if_neg (by rw [e]; decide)]
    have hhd : ∀ s, s < n → hd s ≤ hhN := fun s hs => by
      have := hall s hs
      rwa [hh, (hr s hs).2.2.1, (hD s hs).2.1, nI_le1 (by have := (hD s hs).2.2.1; omega) hpf.1.2.2.2] at this
    obtain ⟨-, sp1, sp2⟩ := mTr_spec (nh := nh) hpf hk hhd n 0 (upM z) 0 0 0 (up2 z 40 41 (-1)) (fun _ => 0) (fun _ => 0) (fun _ => 0) (by omega) g0 (fun j hj => by omega) rfl (by rw [hup]; unfold svH; rw [sv_0]) (by rw [Nat.zero_and]; rfl) (Or.inl rfl) hm0 (Or.inl b41) (qR w 0) v0
    rw [b41] at sp1 sp2
    by_cases q : qR w 0 < 1000000
    · obtain ⟨c1, c2, c3⟩ := r1 q
      obtain ⟨d1, q', d2, d3⟩ := sp1 ⟨q, Or.inl (by decide)⟩
      have hq := bst_one c2 d2 n (Nat.le_refl _)
      generalize mTr n nh P A n 0 (upM z) 0 0 0 (up2 z 40 41 (-1)) = y at *
      have hpos : ¬ y 40 41 < 0 := by rw [d1]; exact nI_pos (by omega)
      refine ⟨?_, fun k => ?_⟩
      · rw [c1]
        unfold vDaysM
        rw [if_neg hpos, d1]
      · rw [c3 k]
        unfold vStepM
        by_cases g : 0 ≤ k ∧ k < nI n
        · have hkn := nn_i g (by omega)
          rw [if_pos g, if_pos ⟨hpos, g.1, g.2⟩, d3 _ hkn, hq _ hkn]
        · rw [if_neg g, if_neg (fun g2 => g ⟨g2.2.1, g2.2.2⟩)]
    · obtain ⟨c1, c2⟩ := r2 q
      obtain ⟨d1, -⟩ := sp2 (fun g => q g.1)
      obtain ⟨d3, d4⟩ := none_ _ d1
      exact ⟨c1.trans d3.symm, fun k => (c2 k).trans (d4 k).symm⟩
end FIN

theorem hung_eq {ι : gIm} {ρ : gRm} {yr wk nr : Nat} (h : iB ι ρ yr wk nr) (hn : nr ≤ 200) : sHung (spo ρ) = nI (upM ι) := by
  unfold sHung upM
  have : ∀ m i a, i + m ≤ 6 → fo (fun i a => a ||| (if spo ρ i = none then 0 else (1 : Int32) <<< (nI i &&& 31))) m i (nI a) = nI (fo (fun p a => a ||| (if ι 59 p < 0 then 0 else 2 ^ p)) m i a) := by
    intro m
    induction m with
    | zero => intro i a _; rfl
    | succ m ih =>
      intro i a hi
      rw [fo_s, fo_s]
      have e : nI a ||| (if spo ρ i = none then 0 else (1 : Int32) <<< (nI i &&& 31)) = nI (a ||| (if ι 59 i < 0 then 0 else 2 ^ i)) := by
        have hs := sn_iff h hn (p := i) (by omega)
        by_cases q : spo ρ i = none
        · rw [if_pos q, if_pos (hs.mp q), nI_or0]
        · rw [if_neg q, if_neg (fun g => q (hs.mpr g)), nI_shl i (by omega), nI_or]
      rw [e]
      exact ih (i + 1) _ (by omega)
  exact this 6 0 0 (by omega)
def hdO (ι : gIm) (s : Nat) : Nat := (ι 20 s).toNatClampNeg
def dyO (ι : gIm) (s : Nat) : Nat := (ι 19 s).toNatClampNeg
theorem iW_okD {ι : gIm} {ns ch : Nat} (h : iW ι ns ch) : okD ι ns (pO ι) (hdO ι) (dyO ι) := by
  intro s hs
  obtain ⟨-, -, ⟨-, u3⟩, -, u4, u5⟩ := h.2.2.2.2 s hs
  obtain ⟨a, a1, a2⟩ := nI_of2 (x := ι 20 s) (M := 60) (n := 60) rfl (by grind) u5.2
  obtain ⟨b, b1, b2⟩ := nI_of2 (x := ι 19 s) (M := 9) (n := 9) rfl (by grind) u4.2
  unfold hdO dyO
  rw [a2, b2, nI_cl1 (by omega), nI_cl1 (by omega)]
  exact ⟨u3, rfl, a1, rfl, b1⟩
theorem upM_z {ι z : gIm} (hz : z 59 = ι 59) : upM z = upM ι := by unfold upM; rw [hz]
section PLN
variable {k : Nat} {ι : gIm} {ρ : gRm} {Λ : gLm} {yr wk nh nr nb ns np ch : Nat}
theorem cin_of (h : Inv8 k ι ρ Λ yr wk nh nr nb ns np ch) (h8 : ns ≤ 8) : ∃ hhN, (sHands (hr ι 4) (hr ι 2) nh) = nI hhN ∧ cin ι ns (pO ι) (aO ι) (hdO ι) (dyO ι) (upM ι) hhN := by
  obtain ⟨a1, a2, a3, a4, a5, a6, a7, a8, a9, b1, b2, b3, b4⟩ := id h
  have q1 : nh ≤ 24 := a4.2.2.1
  have q2 : nr ≤ 200 := a5.2.2.1
  have q3 : nb ≤ 40 := a8.2.2.1
  have q4 : ns ≤ 12 := a9.2.2.1
  have q5 : np ≤ 30 := b1.2.2.1
  obtain ⟨h1, h2, h3, h4, h5, h6⟩ := id a4
  obtain ⟨m, m1, m2, -⟩ := sHands_is (f := hr ι 4) (g := hr ι 2) h3 (fun i hi => (h5 i hi).2.2.2.2.1)
  refine ⟨m, m2, ⟨h8, upM_lt ι, by omega⟩, iW_okD a9, fun s hs => ?_, fun s hs => ?_, b2.1⟩
  · obtain ⟨-, -, -, ⟨-, u⟩, -⟩ := a9.2.2.2.2 s hs
    have : 2 ^ s ≤ 2 ^ 8 := Nat.pow_le_pow_right (by omega) (by omega)
    omega
  · obtain ⟨-, -, ⟨u1, -⟩, ⟨u2, -⟩, -⟩ := a9.2.2.2.2 s hs
    exact ⟨u1, u2⟩
/-- what the planner answers, whether it has seen it or not -/
theorem see_agree (h : Inv8 k ι ρ Λ yr wk nh nr nb ns np ch) (h8 : ns ≤ 8) : agree (xSee ns (ldB (ι 17) 0 ns) (ldB (ι 17) 2 ns) (pO ι) (aO ι) (svH (mvN (ι 17) (pO ι)) (upM ι) ns) (sHung (spo ρ)) (sHands (hr ι 4) (hr ι 2) nh) ι) ns ∧ iQ0 (xSee ns (ldB (ι 17) 0 ns) (ldB (ι 17) 2 ns) (pO ι) (aO ι) (svH (mvN (ι 17) (pO ι)) (upM ι) ns) (sHung (spo ρ)) (sHands (hr ι 4) (hr ι 2) nh) ι) ∧ (xSee ns (ldB (ι 17) 0 ns) (ldB (ι 17) 2 ns) (pO ι) (aO ι) (svH (mvN (ι 17) (pO ι)) (upM ι) ns) (sHung (spo ρ)) (sHands (hr ι 4) (hr ι 2) nh) ι) 22 14 = ι 16 6 ∧ ((xSee ns (ldB (ι 17) 0 ns) (ldB (ι 17) 2 ns) (pO ι) (aO ι) (svH (mvN (ι 17) (pO ι)) (upM ι) ns) (sHung (spo ρ)) (sHands (hr ι 4) (hr ι 2) nh) ι) 22 12 = nI (upM ι) ∧ (xSee ns (ldB (ι 17) 0 ns) (ldB (ι 17) 2 ns) (pO ι) (aO ι) (svH (mvN (ι 17) (pO ι)) (upM ι) ns) (sHung (spo ρ)) (sHands (hr ι 4) (hr ι 2) nh) ι) 22 13 = (sHands (hr ι 4) (hr ι 2) nh)) ∧ ∀ c, (c < 22 ∨ 30 < c) → (xSee ns (ldB (ι 17) 0 ns) (ldB (ι 17) 2 ns) (pO ι) (aO ι) (svH (mvN (ι 17) (pO ι)) (upM ι) ns) (sHung (spo ρ)) (sHands (hr ι 4) (hr ι 2) nh) ι) c = ι c := by
  obtain ⟨a1, a2, a3, a4, a5, a6, a7, a8, a9, b1, b2, b3, b4⟩ := id h
  have q1 : nh ≤ 24 := a4.2.2.1
  have q2 : nr ≤ 200 := a5.2.2.1
  have q3 : nb ≤ 40 := a8.2.2.1
  have q4 : ns ≤ 12 := a9.2.2.1
  have q5 : np ≤ 30 := b1.2.2.1
  obtain ⟨w1, w2, w3, w4, w5⟩ := id a9
  obtain ⟨hhN, e1, hc⟩ := cin_of h h8
  rw [hung_eq a7 q2, e1]
  unfold xSee
  by_cases g : nI (upM ι) = ι 22 12 ∧ nI hhN = ι 22 13 ∧ ι 16 6 = ι 22 14
  · rw [if_pos g]
    exact ⟨b2.2.2 h8 g.2.2, b2.1, g.2.2.symm, ⟨g.1.symm, g.2.1.symm⟩, fun _ _ => rfl⟩
  · rw [if_neg g]
    obtain ⟨hpf, ⟨w17, w22⟩, hR, q0, hne⟩ := cin_me hc
    have y22 := (su_all hc).2.2
    have core := plan_core hc (fun s hs => (w5 s hs).2.1)
    have y9 : xMe ns (ldB (ι 17) 0 ns) (ldB (ι 17) 2 ns) (pO ι) (aO ι) (svH (mvN (ι 17) (pO ι)) (upM ι) ns) (xSu (pO ι) ns (xSee0 ι (nI (upM ι)) (nI hhN) ns)) 22 9 = nI ns := by
      rw [w22, y22 9 (by decide) (by decide), see_22, if_pos rfl]
    have v14 : xMe ns (ldB (ι 17) 0 ns) (ldB (ι 17) 2 ns) (pO ι) (aO ι) (svH (mvN (ι 17) (pO ι)) (upM ι) ns) (xSu (pO ι) ns (xSee0 ι (nI (upM ι)) (nI hhN) ns)) 22 14 = ι 16 6 := by
      rw [w22, y22 14 (by decide) (by decide), see_22, if_neg (by decide), if_pos rfl]
    have v12 : xMe ns (ldB (ι 17) 0 ns) (ldB (ι 17) 2 ns) (pO ι) (aO ι) (svH (mvN (ι 17) (pO ι)) (upM ι) ns) (xSu (pO ι) ns (xSee0 ι (nI (upM ι)) (nI hhN) ns)) 22 12 = nI (upM ι) := by
      rw [w22, y22 12 (by decide) (by decide), see_22, if_neg (by decide), if_neg (by decide), if_neg (by decide), if_pos rfl]
    have v13 : xMe ns (ldB (ι 17) 0 ns) (ldB (ι 17) 2 ns) (pO ι) (aO ι) (svH (mvN (ι 17) (pO ι)) (upM ι) ns) (xSu (pO ι) ns (xSee0 ι (nI (upM ι)) (nI hhN) ns)) 22 13 = nI hhN := by
      rw [w22, y22 13 (by decide) (by decide), see_22, if_neg (by decide), if_neg (by decide), if_pos rfl]
    generalize xMe ns (ldB (ι 17) 0 ns) (ldB (ι 17) 2 ns) (pO ι) (aO ι) (svH (mvN (ι 17) (pO ι)) (upM ι) ns) (xSu (pO ι) ns (xSee0 ι (nI (upM ι)) (nI hhN) ns)) = w at *
    have hz : xPl2 ns (ldB (ι 17) 0 ns) (ldB (ι 17) 2 ns) (pO ι) (aO ι) (svH (mvN (ι 17) (pO ι)) (upM ι) ns) w = xPl2 ns (ldB (w 17) 0 ns) (ldB (w 17) 2 ns) (pO ι) (aO ι) (svH (mvN (w 17) (pO ι)) (upM ι) ns) w := by rw [w17]
    obtain ⟨-, -, ex, e29, e30⟩ := cls_row hpf y9 q0.1.2.2.1 q0.1.2.2.2 hz
    generalize xPl2 ns (ldB (ι 17) 0 ns) (ldB (ι 17) 2 ns) (pO ι) (aO ι) (svH (mvN (ι 17) (pO ι)) (upM ι) ns) w = x at *
    have xc : ∀ c, (c < 22 ∨ 30 < c) → x c = ι c := fun c hc => by
      rw [ex c (by omega) (by omega) (by omega), hne c (by omega) (by omega) (by omega) (by omega) (by omega) (by omega)]
    have x22 : x 22 = w 22 := ex 22 (by decide) (by decide) (by decide)
    have ep : pO x = pO ι := by funext s; unfold pO; rw [xc 18 (by omega)]
    have ea : aO x = aO ι := by funext s; unfold aO; rw [xc 21 (by omega)]
    refine ⟨?_, ?_, ?_, ⟨?_, ?_⟩, xc⟩
    · intro z nh' g2 g3 g4
      rw [x22, v12] at g3
      rw [x22, v13] at g4
      rw [xc 17 (by omega), xc 19 (by omega), xc 20 (by omega), xc 21 (by omega)] at g2
      rw [ep, ea]
      have hu := (nI_eq (by have := upM_lt z; omega) (by have := upM_lt ι; omega)).mp g3
      refine core z nh' (fun s hs => ?_) hu g4
      obtain ⟨f1, f2, f3, f4⟩ := g2 s hs
      exact ⟨f1, f2, f3, f4.trans (w5 s hs).2.2.2.1.1⟩
    · refine ⟨⟨?_, ?_, e29, e30⟩, fun S hS => ?_⟩
      · rw [ex 24 (by decide) (by decide) (by decide)]; exact q0.1.1
      · rw [ex 25 (by decide) (by decide) (by decide)]; exact q0.1.2.1
      · unfold opR
        rw [ex 27 (by decide) (by decide) (by decide)]
        exact q0.2 S hS
    · rw [x22]; exact v14
    · rw [x22]; exact v12
    · rw [x22]; exact v13
theorem okT_of8 (h : Inv8 k ι ρ Λ yr wk nh nr nb ns np ch) (h8 : ns ≤ 8) {z : gIm} (hz : ∀ d, 40 ≤ d → d < 77 → z d = ι d) : okT ns nh (pO ι) (aO ι) 0 z := by
  obtain ⟨a1, a2, a3, a4, a5, a6, a7, a8, a9, b1, b2, b3, b4⟩ := id h
  have q1 : nh ≤ 24 := a4.2.2.1
  have q2 : nr ≤ 200 := a5.2.2.1
  have q3 : nb ≤ 40 := a8.2.2.1
  have q4 : ns ≤ 12 := a9.2.2.1
  have q5 : np ≤ 30 := b1.2.2.1
  obtain ⟨h1, h2, h3, h4, h5, h6⟩ := id a4
  obtain ⟨w1, w2, w3, w4, w5⟩ := id a9
  refine ⟨(congrFun (hz 40 (by omega) (by omega)) 8).trans w2, (congrFun (hz 40 (by omega) (by omega)) 4).trans h2, fun s hs => ?_, fun s hs => ?_, fun j hj => by omega⟩
  · obtain ⟨⟨-, u1, -⟩, -, ⟨u2, u3⟩, -⟩ := w5 s hs
    rw [hz 67 (by omega) (by omega), ← u1]
    exact ⟨u2, u3⟩
  · obtain ⟨⟨-, -, -, -, u1⟩, -, -, ⟨u2, u3⟩, -⟩ := w5 s hs
    rw [hz 70 (by omega) (by omega), ← u1]
    have : 2 ^ s ≤ 2 ^ 8 := Nat.pow_le_pow_right (by omega) (by omega)
    exact ⟨u2, by omega⟩
/-- the model at any memory whose rows are those -/
theorem ag_z (h : Inv8 k ι ρ Λ yr wk nh nr nb ns np ch) (h8 : ns ≤ 8) {z : gIm} (hz : ∀ d, 40 ≤ d → d < 77 → z d = ι d) : vDays (xSee ns (ldB (ι 17) 0 ns) (ldB (ι 17) 2 ns) (pO ι) (aO ι) (svH (mvN (ι 17) (pO ι)) (upM ι) ns) (sHung (spo ρ)) (sHands (hr ι 4) (hr ι 2) nh) ι) = vDaysM (mPlans ns nh (pO ι) (aO ι) z) ∧ ∀ k, vStep (xSee ns (ldB (ι 17) 0 ns) (ldB (ι 17) 2 ns) (pO ι) (aO ι) (svH (mvN (ι 17) (pO ι)) (upM ι) ns) (sHung (spo ρ)) (sHands (hr ι 4) (hr ι 2) nh) ι) k = vStepM (mPlans ns nh (pO ι) (aO ι) z) k (nI ns) := by
  obtain ⟨a1, a2, a3, a4, a5, a6, a7, a8, a9, b1, b2, b3, b4⟩ := id h
  have q1 : nh ≤ 24 := a4.2.2.1
  have q2 : nr ≤ 200 := a5.2.2.1
  have q3 : nb ≤ 40 := a8.2.2.1
  have q4 : ns ≤ 12 := a9.2.2.1
  have q5 : np ≤ 30 := b1.2.2.1
  obtain ⟨w1, w2, w3, w4, w5⟩ := id a9
  obtain ⟨g1, g2, g3, ⟨g4, g5⟩, g6⟩ := see_agree h h8
  generalize (xSee ns (ldB (ι 17) 0 ns) (ldB (ι 17) 2 ns) (pO ι) (aO ι) (svH (mvN (ι 17) (pO ι)) (upM ι) ns) (sHung (spo ρ)) (sHands (hr ι 4) (hr ι 2) nh) ι) = x at *
  have ep : pO x = pO ι := by funext s; unfold pO; rw [g6 18 (by omega)]
  have ea : aO x = aO ι := by funext s; unfold aO; rw [g6 21 (by omega)]
  have := g1 z nh (fun s hs => by
    rw [hz 66 (by omega) (by omega), hz 68 (by omega) (by omega), hz 69 (by omega) (by omega), hz 70 (by omega) (by omega), g6 17 (by omega), g6 19 (by omega), g6 20 (by omega), g6 21 (by omega)]
    obtain ⟨⟨u1, u2, u3, u4, u5⟩, -⟩ := w5 s hs
    exact ⟨u1.symm, u3.symm, u4.symm, u5.symm⟩) (by rw [g4, upM_z (hz 59 (by omega) (by omega))]) (by rw [g5, hz 50 (by omega) (by omega), hz 44 (by omega) (by omega), iH_hands a4])
  rw [ep, ea] at this
  exact this
theorem cPlan_0 {n : Nat} (hn : n < 1000) (h : cPlan (nI n) = 0) : n ≤ 8 := by
  unfold cPlan at h
  split at h
  · rename_i g
    exact (nI_le1 (a := n) (b := 8) (by omega) (by omega)).mp g
  · exact absurd h (by decide)
theorem plan_inv (h : Inv8 k ι ρ Λ yr wk nh nr nb ns np ch) (h8 : ns ≤ 8) : Inv8 (k + 1) (mPlans ns nh (pO ι) (aO ι) (xSee ns (ldB (ι 17) 0 ns) (ldB (ι 17) 2 ns) (pO ι) (aO ι) (svH (mvN (ι 17) (pO ι)) (upM ι) ns) (sHung (spo ρ)) (sHands (hr ι 4) (hr ι 2) nh) ι)) ρ Λ yr wk nh nr nb ns np ch := by
  obtain ⟨a1, a2, a3, a4, a5, a6, a7, a8, a9, b1, b2, b3, b4⟩ := id h
  have q1 : nh ≤ 24 := a4.2.2.1
  have q2 : nr ≤ 200 := a5.2.2.1
  have q3 : nb ≤ 40 := a8.2.2.1
  have q4 : ns ≤ 12 := a9.2.2.1
  have q5 : np ≤ 30 := b1.2.2.1
  obtain ⟨w1, w2, w3, w4, w5⟩ := id a9
  obtain ⟨g1, g2, g3, ⟨g4, g5⟩, g6⟩ := see_agree h h8
  generalize (xSee ns (ldB (ι 17) 0 ns) (ldB (ι 17) 2 ns) (pO ι) (aO ι) (svH (mvN (ι 17) (pO ι)) (upM ι) ns) (sHung (spo ρ)) (sHands (hr ι 4) (hr ι 2) nh) ι) = x at *
  obtain ⟨m1, m2⟩ := mPl_ne ns nh (pO ι) (aO ι) x
  generalize mPlans ns nh (pO ι) (aO ι) x = y at *
  have e : ∀ c i, ¬ ((22 ≤ c ∧ c ≤ 30) ∨ (71 ≤ c ∧ c ≤ 73) ∨ (c = 40 ∧ i = 41)) → y c i = ι c i := by
    intro c i q
    by_cases q1 : c = 40
    · subst q1
      rw [m2 i (by omega), g6 40 (by omega)]
    · rw [m1 c q1 (by omega) (by omega) (by omega), g6 c (by omega)]
  have ey : ∀ c, c ≤ 30 → y c = x c := fun c hc => m1 c (by omega) (by omega) (by omega) (by omega)
  refine ⟨a1, iR_fr a2 (fun d i g => e d i (by unfold dR at g; omega)), iS_fr a3 (fun d i g => e d i (by unfold dS at g; omega)), iH_fr a4 (fun d i g => e d i (by unfold dH at g; omega)) (fun _ _ => rfl), iN_fr a5 (fun d i g => e d i (by unfold dN at g; omega)) (fun _ _ => ⟨rfl, rfl⟩) (fun _ _ => ⟨rfl, rfl⟩), iL_fr a6 (fun d i g => e d i (by unfold dL at g; omega)), iB_fr a7 (fun d i g => e d i (by unfold dB at g; omega)) (fun _ _ => rfl), iK_fr a8 (fun d i g => e d i (by unfold dK at g; omega)) (fun _ _ => ⟨rfl, rfl⟩), iW_fr a9 (fun d i g => e d i (by unfold dW at g; omega)), iP_fr b1 (fun d i g => e d i (by unfold dP at g; omega)), ?_, b3, by omega⟩
  refine ⟨iQ0_fr g2 (fun c j d => by rw [ey c (by omega)]), Or.inr ⟨ch, Nat.le_refl _, ?_⟩, fun _ _ => agree_fr g1 (fun c j d => by rw [ey c (by unfold dQ at d; omega)])⟩
  rw [ey 22 (by omega), g3, w4]
theorem o_plan (h : Inv8 k ι ρ Λ yr wk nh nr nb ns np ch) : Both k 7 13 0 0 jX11_plan jX12_plan [] ι ρ Λ := by
  obtain ⟨a1, a2, a3, a4, a5, a6, a7, a8, a9, b1, b2, b3, b4⟩ := id h
  have q1 : nh ≤ 24 := a4.2.2.1
  have q2 : nr ≤ 200 := a5.2.2.1
  have q3 : nb ≤ 40 := a8.2.2.1
  have q4 : ns ≤ 12 := a9.2.2.1
  have q5 : np ≤ 30 := b1.2.2.1
  obtain ⟨h1, h2, h3, h4, h5, h6⟩ := id a4
  obtain ⟨w1, w2, w3, w4, w5⟩ := id a9
  have hSu : ns ≤ 8 → okP (xSu (pO ι) ns (xSee0 ι (sHung (spo ρ)) (sHands (hr ι 4) (hr ι 2) nh) ns)) ns (ldB (ι 17) 0 ns) (ldB (ι 17) 2 ns) (pO ι) (aO ι) (svH (mvN (ι 17) (pO ι)) (upM ι) ns) := by
    intro h8
    obtain ⟨hhN, e1, hc⟩ := cin_of h h8
    rw [hung_eq a7 q2, e1]
    exact cin_okP hc
  have hRr : ns ≤ 8 → okR (xMe ns (ldB (ι 17) 0 ns) (ldB (ι 17) 2 ns) (pO ι) (aO ι) (svH (mvN (ι 17) (pO ι)) (upM ι) ns) (xSu (pO ι) ns (xSee0 ι (sHung (spo ρ)) (sHands (hr ι 4) (hr ι 2) nh) ns))) ns 0 := by
    intro h8
    obtain ⟨hhN, e1, hc⟩ := cin_of h h8
    rw [hung_eq a7 q2, e1]
    exact (cin_me hc).2.2.1
  refine both_of (M := fun z => mPlans ns nh (pO ι) (aO ι) z) (ρ' := ρ) (Λ' := Λ) h (fun K => by rw [sel_same, sel_same]; exact x_plan K ι ρ Λ a1 nh h1 h3 (fun i hi => (h5 i hi).1) (spo ρ) (spo_map (B_rng a7 q2)) (spo_lt (B_rng a7 q2)) ns w1 w3 (ldB (ι 17) 0 ns) (ldB (ι 17) 2 ns) (pO ι) (aO ι) (svH (mvN (ι 17) (pO ι)) (upM ι) ns) (fun s hs => (w5 s hs).2.2.1) hSu hRr) (fun hc d g1 g2 => (see_agree h (cPlan_0 (by omega) hc)).2.2.2.2 d (by omega)) (fun K z ρ1 Λ1 hF hz => ?_) (fun hc => ⟨_, _, _, _, _, _, _, _, plan_inv h (cPlan_0 (by omega) hc)⟩)
  have m := m_plan K z ρ1 Λ1 hF ns nh w3 h3 (pO ι) (aO ι) ((congrFun (hz 40 (by omega) (by omega)) 8).trans w2) (fun h8 => okT_of8 h h8 hz)
  rw [rs_eq (w := vDaysM (mPlans ns nh (pO ι) (aO ι) z)) (fun hc => (ag_z h (cPlan_0 (by omega) hc) hz).1)]
  exact m
theorem o_planAt (h : Inv8 k ι ρ Λ yr wk nh nr nb ns np ch) (i : Int32) : Both k 7 13 0 0 jX11_planAt jX12_planAt [vI i] ι ρ Λ := by
  obtain ⟨a1, a2, a3, a4, a5, a6, a7, a8, a9, b1, b2, b3, b4⟩ := id h
  have q1 : nh ≤ 24 := a4.2.2.1
  have q2 : nr ≤ 200 := a5.2.2.1
  have q3 : nb ≤ 40 := a8.2.2.1
  have q4 : ns ≤ 12 := a9.2.2.1
  have q5 : np ≤ 30 := b1.2.2.1
  obtain ⟨h1, h2, h3, h4, h5, h6⟩ := id a4
  obtain ⟨w1, w2, w3, w4, w5⟩ := id a9
  have hSu : ns ≤ 8 → okP (xSu (pO ι) ns (xSee0 ι (sHung (spo ρ)) (sHands (hr ι 4) (hr ι 2) nh) ns)) ns (ldB (ι 17) 0 ns) (ldB (ι 17) 2 ns) (pO ι) (aO ι) (svH (mvN (ι 17) (pO ι)) (upM ι) ns) := by
    intro h8
    obtain ⟨hhN, e1, hc⟩ := cin_of h h8
    rw [hung_eq a7 q2, e1]
    exact cin_okP hc
  have hRr : ns ≤ 8 → okR (xMe ns (ldB (ι 17) 0 ns) (ldB (ι 17) 2 ns) (pO ι) (aO ι) (svH (mvN (ι 17) (pO ι)) (upM ι) ns) (xSu (pO ι) ns (xSee0 ι (sHung (spo ρ)) (sHands (hr ι 4) (hr ι 2) nh) ns))) ns 0 := by
    intro h8
    obtain ⟨hhN, e1, hc⟩ := cin_of h h8
    rw [hung_eq a7 q2, e1]
    exact (cin_me hc).2.2.1
  refine both_of (M := fun z => mPlans ns nh (pO ι) (aO ι) z) (ρ' := ρ) (Λ' := Λ) h (fun K => by rw [sel_same, sel_same]; exact x_planAt K i ι ρ Λ a1 nh h1 h3 (fun i hi => (h5 i hi).1) (spo ρ) (spo_map (B_rng a7 q2)) (spo_lt (B_rng a7 q2)) ns w1 w3 (ldB (ι 17) 0 ns) (ldB (ι 17) 2 ns) (pO ι) (aO ι) (svH (mvN (ι 17) (pO ι)) (upM ι) ns) (fun s hs => (w5 s hs).2.2.1) hSu hRr) (fun hc d g1 g2 => (see_agree h (cPlan_0 (by omega) hc)).2.2.2.2 d (by omega)) (fun K z ρ1 Λ1 hF hz => ?_) (fun hc => ⟨_, _, _, _, _, _, _, _, plan_inv h (cPlan_0 (by omega) hc)⟩)
  have m := m_planAt K i z ρ1 Λ1 hF ns nh w3 h3 (pO ι) (aO ι) ((congrFun (hz 40 (by omega) (by omega)) 8).trans w2) (fun h8 => okT_of8 h h8 hz)
  rw [rs_eq (w := vStepM (mPlans ns nh (pO ι) (aO ι) z) i (nI ns)) (fun hc => (ag_z h (cPlan_0 (by omega) hc) hz).2 i)]
  exact m
end PLN
