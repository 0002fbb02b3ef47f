/-! calls of both: small -/
theorem i32_of {x : Int32} {n : Nat} (h : 0 ≤ x ∧ x < nI n) (hn : n < 1000000) : ∃ y, y < n ∧ x = nI y := ⟨x.toNatClampNeg, nn_i h hn, (gIn_nn (m := n) h (Nat.le_refl _) hn).nI⟩
theorem imin_1_9 {x y : Int32} (hx : 1 ≤ x ∧ x ≤ 9) (hy : 1 ≤ y ∧ y ≤ 9) : 1 ≤ imin x y ∧ imin x y ≤ 9 := by unfold imin; split <;> assumption
theorem ec_small {ι : gIm} {ρ : gRm} {nh : Nat} (h : iH ι ρ nh) (a b c r : Int32) : cSmall a b c (nI nh) (sCords (ι 51 a.toNatClampNeg) (ι 46 a.toNatClampNeg) (ι 48 a.toNatClampNeg)) (sCords (ι 51 b.toNatClampNeg) (ι 46 b.toNatClampNeg) (ι 48 b.toNatClampNeg)) (sCords (ι 51 c.toNatClampNeg) (ι 46 c.toNatClampNeg) (ι 48 c.toNatClampNeg)) r =
    cSmall a b c (nI nh) (hr ι 5 a.toNatClampNeg / 10 - hr ι 7 a.toNatClampNeg) (hr ι 5 b.toNatClampNeg / 10 - hr ι 7 b.toNatClampNeg) (hr ι 5 c.toNatClampNeg / 10 - hr ι 7 c.toNatClampNeg) r := by
  obtain ⟨h1, h2, h3, h4, h5, h6⟩ := h
  unfold cSmall
  by_cases g : (0 ≤ a ∧ a < nI nh) ∧ (0 ≤ b ∧ b < nI nh) ∧ (0 ≤ c ∧ c < nI nh)
  · rw [if_pos g, if_pos g, sCords_eq (h5 _ (nn_i g.1 (by omega))).2, sCords_eq (h5 _ (nn_i g.2.1 (by omega))).2, sCords_eq (h5 _ (nn_i g.2.2 (by omega))).2]
  · rw [if_neg g, if_neg g]
theorem nSame_pos {a b c x : Nat} (h : x = a ∨ x = b ∨ x = c) : 1 ≤ nSame a b c x := by unfold nSame; grind
theorem nSame_le (a b c x : Nat) : nSame a b c x ≤ 3 := by unfold nSame; grind
theorem nSame_0 {a b c x : Nat} (h : ¬ (x = a ∨ x = b ∨ x = c)) : nSame a b c x = 0 := by unfold nSame; grind
theorem sm_xr (ι : gIm) (nr a b c : Nat) (y : Int32) (d j : Nat) (hr : nr ≤ 200) (h : d = 7 ∨ d = 200 + nr) : xSmallI ι nr a b c y d j = if d = 7 then (if j = 1 then nI nr + 1 else ι 7 j) else (if j = 3 then y else if j = 2 then imin (ι (100 + a) 3) (imin (ι (100 + b) 3) (ι (100 + c) 3)) else if j = 1 then 0 else if j = 0 then nI nr else if j = 8 then -9 else 0) := by
  unfold xSmallI
  rw [xr_get _ _ _ _ _ _ _ hr]
  by_cases h7 : d = 7
  · rw [if_pos h7, if_pos h7]
    unfold inc
    rw [up2_ne _ _ _ (by omega), up2_ne _ _ _ (by omega), up2_ne _ _ _ (by omega), va_up_ne _ _ (by omega), va_up_ne _ _ (by omega)]
  · rw [if_neg h7, if_neg h7, if_pos (by omega)]
theorem sm_mp (z : gIm) (a b c nr : Nat) (v1 v2 v3 : Int32) (d : Nat) (h : ¬ d = 48 ∧ ¬ d = 57) : up2 (up2 (up2 (inc (inc (inc z 48 a) 48 b) 48 c) 57 (3 * nr) v1) 57 (3 * nr + 1) v2) 57 (3 * nr + 2) v3 d = z d := by
  unfold inc
  rw [up2_ne _ _ _ (by omega), up2_ne _ _ _ (by omega), up2_ne _ _ _ (by omega), up2_ne _ _ _ (by omega), up2_ne _ _ _ (by omega), up2_ne _ _ _ (by omega)]
theorem sm_mm (z : gIm) (nr : Nat) (a b c : Int32) (d j : Nat) (h : d = 40 ∨ d = 56 ∨ (52 ≤ d ∧ d ≤ 55)) : mSmall z nr a b c d j = if d = 40 then (if j = 5 then nI nr + 1 else z 40 j) else if d = 56 then (if j = 3 * nr then a else if j = 3 * nr + 1 then b else if j = 3 * nr + 2 then c else z 56 j) else
    if d = 52 ∧ j = nr then 0 else if d = 53 ∧ j = nr then imin (z 45 a.toNatClampNeg) (imin (z 45 b.toNatClampNeg) (z 45 c.toNatClampNeg)) else if d = 54 ∧ j = nr then z 40 2 else if d = 55 ∧ j = nr then -9 else z d j := by
  unfold mSmall
  rw [ma_get, sm_mp _ _ _ _ _ _ _ _ 40 (by decide), sm_mp _ _ _ _ _ _ _ _ 56 (by decide), sm_mp _ _ _ _ _ _ _ _ d (by omega)]
set_option maxRecDepth 20000 in
theorem o_small {k : Nat} {ι : gIm} {ρ : gRm} {Λ : gLm} {yr wk nh nr nb ns np ch : Nat} (h : Inv8 k ι ρ Λ yr wk nh nr nb ns np ch) (a b c : Int32) : Both k 5 3 3 15 jX11_small jX12_small [vI a, vI b, vI c] ι ρ Λ := by
  obtain ⟨a1, a2, a3, a4, a5, a6, a7, a8, a9, b1, b2, b3, b4⟩ := id h
  have q1 : nh ≤ 24 := a4.2.2.1
  have q2 : nr ≤ 200 := a5.2.2.1
  have q3 : nb ≤ 40 := a8.2.2.1
  have q4 : ns ≤ 12 := a9.2.2.1
  have q5 : np ≤ 30 := b1.2.2.1
  obtain ⟨s1, s2, s3, s4, s5, s6, s7⟩ := id a3
  obtain ⟨h1, h2, h3, h4, h5, h6⟩ := id a4
  obtain ⟨n1, n2, n3, n4, n5⟩ := id a5
  refine both_of (M := fun z => mSmall z nr a b c) h (fun K => x_small K a b c ι ρ Λ a1 nh h1 h3 (fun i hi => (h5 i hi).1) nr n1 n3 (b3.2.1 nr (Nat.le_refl _)) (show nI nr ≤ nI 200 from nI_le n3 (by omega))) (fun hc d g1 g2 => ?_) (fun K z ρ1 Λ1 hF hz => ?_) (fun hc => ?_)
  · obtain ⟨f1, f2, f3, f4, f5, f6, f7⟩ := cSmall_0 hc
    have hnr := rope_lt f7 n3
    have g3 := nn_i f1 (by omega); have g4 := nn_i f2 (by omega); have g5 := nn_i f3 (by omega)
    funext j
    rw [sm_x _ _ _ _ _ _ _ _ hnr (by omega) (by omega) (by omega) (by omega), if_neg (by omega)]
  · have m := m_small K a b c z ρ1 Λ1 hF nh ((congrFun (hz 40 (by omega) (by omega)) 4).trans h2) h3 nr ((congrFun (hz 40 (by omega) (by omega)) 5).trans n2) n3
    rw [hz 51 (by omega) (by omega), hz 46 (by omega) (by omega), hz 48 (by omega) (by omega), ec_small a4] at m
    exact m
  · obtain ⟨f1, f2, f3, f4, f5, f6, f7⟩ := cSmall_0 hc
    have hnr := rope_lt f7 n3
    obtain ⟨a', ha, ra⟩ := i32_of f1 (by omega)
    obtain ⟨b', hb, rb⟩ := i32_of f2 (by omega)
    obtain ⟨c', hcc, rc⟩ := i32_of f3 (by omega)
    subst ra; subst rb; subst rc
    rw [nI_cl1 (by omega), sSame_n (by omega) (by omega) (by omega) (by omega)] at f4 f5 f6
    rw [nI_cl1 (by omega), nI_cl1 (by omega), nI_cl1 (by omega)]
    clear hc
    generalize hz : xSmallI ι nr a' b' c' (ι 2 0) = z
    have zg : ∀ d j, ¬ (d = 7 ∨ d = 200 + nr ∨ d = 400 + nr ∨ d = 600 + nr) → z d j = if (100 ≤ d ∧ d < 124) ∧ j = 7 then ι d j + nI (nSame a' b' c' (d - 100)) else ι d j := fun d j q => by rw [← hz, sm_x _ _ _ _ _ _ _ _ hnr (by omega) (by omega) (by omega) q]
    have zm : ∀ d, 40 ≤ d → d < 77 → z d = ι d := by
      intro d g1 g2
      funext j
      rw [zg d j (by omega), if_neg (by omega)]
    have zr : ∀ d j, d = 7 ∨ d = 200 + nr → z d j = if d = 7 then (if j = 1 then nI nr + 1 else ι 7 j) else (if j = 3 then ι 2 0 else if j = 2 then imin (ι (100 + a') 3) (imin (ι (100 + b') 3) (ι (100 + c') 3)) else if j = 1 then 0 else if j = 0 then nI nr else if j = 8 then -9 else 0) := fun d j q => by rw [← hz, sm_xr _ _ _ _ _ _ _ _ (by omega) q]
    have z4 : z (400 + nr) = row3 (nI a') (nI b') (nI c') := by
      rw [← hz]
      funext j
      unfold xSmallI
      rw [xr_get _ _ _ _ _ _ _ (by omega), if_neg (by omega), if_neg (by omega)]
      unfold inc
      rw [up2_ne _ _ _ (by omega), up2_ne _ _ _ (by omega), up2_ne _ _ _ (by omega), va_up_ne _ _ (by omega), va_up_self, (h5 a' ha).2.1.1, (h5 b' hb).2.1.1, (h5 c' hcc).2.1.1]
    have z6 : z (600 + nr) = row3 (ι 45 a') (ι 45 b') (ι 45 c') := by
      rw [← hz]
      funext j
      unfold xSmallI
      rw [xr_get _ _ _ _ _ _ _ (by omega), if_neg (by omega), if_neg (by omega)]
      unfold inc
      rw [up2_ne _ _ _ (by omega), up2_ne _ _ _ (by omega), up2_ne _ _ _ (by omega), va_up_self, (h5 a' ha).2.1.2.2.2.1, (h5 b' hb).2.1.2.2.2.1, (h5 c' hcc).2.1.2.2.2.1]
    have x45 : ∀ x, x < nh → ι (100 + x) 3 = ι 45 x := fun x hx => (h5 x hx).2.1.2.2.2.1
    have b45 : ∀ x, x < nh → 1 ≤ ι 45 x ∧ ι 45 x ≤ 9 := fun x hx => by have := (h5 x hx).2.2.2.2.2.1; rw [x45 x hx] at this; exact this
    generalize hw : mSmall z nr (nI a') (nI b') (nI c') = w
    have wg : ∀ d j, ¬ (d = 40 ∨ d = 56 ∨ (52 ≤ d ∧ d ≤ 55) ∨ (d = 57 ∧ 3 * nr ≤ j ∧ j < 3 * nr + 3)) → w d j = if d = 48 then z d j + nI (nSame a' b' c' j) else z d j := fun d j q => by rw [← hw, sm_m _ _ _ _ _ _ _ q (by omega) (by omega) (by omega)]
    have wm : ∀ d j, d = 40 ∨ d = 56 ∨ (52 ≤ d ∧ d ≤ 55) → w d j = if d = 40 then (if j = 5 then nI nr + 1 else ι 40 j) else if d = 56 then (if j = 3 * nr then nI a' else if j = 3 * nr + 1 then nI b' else if j = 3 * nr + 2 then nI c' else ι 56 j) else
        if d = 52 ∧ j = nr then 0 else if d = 53 ∧ j = nr then imin (ι 45 a') (imin (ι 45 b') (ι 45 c')) else if d = 54 ∧ j = nr then ι 40 2 else if d = 55 ∧ j = nr then -9 else ι d j := fun d j q => by
      rw [← hw, sm_mm _ _ _ _ _ _ _ q, zm 40 (by omega) (by omega), zm 56 (by omega) (by omega), zm 45 (by omega) (by omega), zm d (by omega) (by omega), nI_cl1 (by omega), nI_cl1 (by omega), nI_cl1 (by omega)]
    have w40 : ∀ j, w 40 j = if j = 5 then nI nr + 1 else ι 40 j := fun j => by rw [wm 40 j (by omega), if_pos rfl]
    have w56 : ∀ j, w 56 j = if j = 3 * nr then nI a' else if j = 3 * nr + 1 then nI b' else if j = 3 * nr + 2 then nI c' else ι 56 j := fun j => by rw [wm 56 j (by omega), if_neg (by omega), if_pos rfl]
    have w57 : ∀ j, w 57 j = if j = 3 * nr + 2 then ι 45 c' else if j = 3 * nr + 1 then ι 45 b' else if j = 3 * nr then ι 45 a' else ι 57 j := by
      intro j
      rw [← hw]; unfold mSmall
      rw [ma_get, if_neg (by decide), if_neg (by decide), if_neg (by omega), if_neg (by omega), if_neg (by omega), if_neg (by omega), nI_cl1 (by omega), nI_cl1 (by omega), nI_cl1 (by omega)]
      unfold inc
      simp only [up2_get]
      rw [zm 57 (by omega) (by omega), zm 45 (by omega) (by omega)]
      grind
    have w5 : ∀ d j, 52 ≤ d ∧ d ≤ 55 → ¬ j = nr → w d j = ι d j := by
      intro d j g1 g2
      rw [wm d j (by omega), if_neg (by omega), if_neg (by omega), if_neg (by omega), if_neg (by omega), if_neg (by omega), if_neg (by omega)]
    have w52 : w 52 nr = 0 := by rw [wm 52 nr (by omega), if_neg (by omega), if_neg (by omega), if_pos ⟨rfl, rfl⟩]
    have w53 : w 53 nr = imin (ι 45 a') (imin (ι 45 b') (ι 45 c')) := by rw [wm 53 nr (by omega), if_neg (by omega), if_neg (by omega), if_neg (by omega), if_pos ⟨rfl, rfl⟩]
    have w54 : w 54 nr = ι 40 2 := by rw [wm 54 nr (by omega), if_neg (by omega), if_neg (by omega), if_neg (by omega), if_neg (by omega), if_pos ⟨rfl, rfl⟩]
    have w55 : w 55 nr = -9 := by rw [wm 55 nr (by omega), if_neg (by omega), if_neg (by omega), if_neg (by omega), if_neg (by omega), if_neg (by omega), if_pos ⟨rfl, rfl⟩]
    have wz : ∀ d j, ¬ (40 ≤ d ∧ d < 77) → w d j = z d j := by
      intro d j q
      rw [wg d j (by omega), if_neg (by omega)]
    have w48 : ∀ j, w 48 j = ι 48 j + nI (nSame a' b' c' j) := by
      intro j
      rw [wg 48 j (by omega), if_pos rfl, zm 48 (by omega) (by omega)]
    have w7 : ∀ x, x < 24 → w (100 + x) 7 = ι (100 + x) 7 + nI (nSame a' b' c' x) := by
      intro x hx
      rw [wz _ _ (by omega), zg _ _ (by omega), if_pos (by omega), Nat.add_sub_cancel_left]
    have e : ∀ d j, ¬ ((100 ≤ d ∧ d < 124 ∧ j = 7) ∨ (d = 7 ∧ j = 1) ∨ d = 200 + nr ∨ d = 400 + nr ∨ d = 600 + nr ∨ (d = 40 ∧ j = 5) ∨ ((d = 56 ∨ d = 57) ∧ 3 * nr ≤ j ∧ j ≤ 3 * nr + 2) ∨ (52 ≤ d ∧ d ≤ 55 ∧ j = nr) ∨ d = 48) → w d j = ι d j := by
      intro d j q
      by_cases q1 : d = 40
      · subst q1; rw [w40, if_neg (by omega)]
      · by_cases q2 : d = 56
        · subst q2; rw [w56, if_neg (by omega), if_neg (by omega), if_neg (by omega)]
        · by_cases q3 : 52 ≤ d ∧ d ≤ 55
          · exact w5 d j q3 (by omega)
          · rw [wg d j (by omega), if_neg (by omega)]
            by_cases q4 : d = 7
            · subst q4
              rw [zr 7 j (by omega), if_pos rfl, if_neg (by omega)]
            · rw [zg d j (by omega), if_neg (by omega)]
    have er : ∀ d j, ¬ ((d = 8 ∧ j = nr) ∨ d = 200 + nr ∨ d = 400 + nr ∨ d = 600 + nr) → xRopeR ρ nr d j = ρ d j := fun d j q => by
      rw [xrR_get _ _ _ _ hnr, if_neg (by omega), if_neg (by omega), if_neg (by omega)]
    refine ⟨yr, wk, nh, nr + 1, nb, ns, np, ch, xr_fix a1 nr 3, iR_fr a2 (fun d i g => e d i (by unfold dR at g; omega)), iS_fr a3 (fun d i g => e d i (by unfold dS at g; omega)), ?_, ?_, ?_, ?_, ?_, iW_fr a9 (fun d i g => e d i (by unfold dW at g; omega)), iP_fr b1 (fun d i g => e d i (by unfold dP at g; omega)), iQ_fr b2 (fun d i g => e d i (by unfold dQ at g; omega)), xr_iF b3 hnr 3, by omega⟩
    · refine ⟨?_, ?_, h3, ?_, fun i hi => ⟨?_, ?_⟩, fun i g4 g5 => ?_⟩
      · rw [e _ _ (by omega)]; exact h1
      · rw [e _ _ (by omega)]; exact h2
      · rw [e _ _ (by omega), e _ _ (by omega)]; exact h4
      · rw [er _ _ (by omega)]; exact (h5 i hi).1
      · obtain ⟨⟨t0, t1, t2, t3, t4, t5, t6⟩, t7, t8, t9, u1, u2, u3, u4⟩ := (h5 i hi).2
        have key : nSame a' b' c' i = 0 ∨ ¬ (ι (100 + i) 5 / 10 - ι (100 + i) 7 < nI (nSame a' b' c' i)) := by
          by_cases q : i = a' ∨ i = b' ∨ i = c'
          · right
            rcases q with q | q | q <;> subst q <;> assumption
          · exact Or.inl (nSame_0 q)
        have key2 : 0 ≤ ι (100 + i) 7 + nI (nSame a' b' c' i) ∧ ι (100 + i) 7 + nI (nSame a' b' c' i) ≤ 200 := by
          rcases key with q | q
          · rw [q, nI_0, Int32.add_zero]; exact u4
          · exact used_le u3 u4 (nSame_le _ _ _ _) q
        have key3 : ι 51 i = 0 → nSame a' b' c' i = 0 := by
          intro q0
          rcases key with q | q
          · exact q
          · rw [(t7 q0).1, (t7 q0).2.2] at q
            rcases Nat.eq_zero_or_pos (nSame a' b' c' i) with q1 | q1
            · exact q1
            · exact absurd (used_no q1 (nSame_le _ _ _ _)) q
        have f0 : ∀ j, ¬ j = 7 → w (100 + i) j = ι (100 + i) j := fun j q => e _ _ (by omega)
        unfold iH1
        rw [f0 0 (by decide), f0 1 (by decide), f0 2 (by decide), f0 3 (by decide), f0 4 (by decide), f0 5 (by decide), f0 6 (by decide), f0 8 (by decide), w7 i (by omega), w48, e 43 _ (by omega), e 44 _ (by omega), e 45 _ (by omega), e 46 _ (by omega), e 47 _ (by omega), e 49 _ (by omega), e 50 _ (by omega), e 51 _ (by omega)]
        refine ⟨⟨t0, t1, t2, t3, t4, by rw [t5], t6⟩, fun q => ⟨(t7 q).1, (t7 q).2.1, ?_⟩, t8, t9, u1, u2, u3, key2⟩
        rw [(t7 q).2.2, key3 q]
        rfl
      · rw [w48, e _ _ (by omega), e _ _ (by omega), nSame_0 (by omega), (h6 i g4 g5).1]
        exact ⟨rfl, (h6 i g4 g5).2⟩
    · refine iN_new (kd := 0) a5 hnr 3 (if_pos rfl).symm (fun r j g1 g2 => e _ _ (by omega)) (fun d r g1 g2 => w5 d r g2 (by omega)) (fun r g1 => ?_) (fun r g1 g2 => e _ _ (by omega)) ?_ ?_ ⟨?_, ?_, ?_, ?_, ?_, ?_, ?_, w52⟩
      · rw [e 58 r (by omega), e (200 + r) 6 (by omega), e (200 + r) 7 (by omega)]
        exact (n4 r g1).2.2.2
      · rw [wz _ _ (by omega), zr 7 1 (by omega), if_pos rfl, if_pos rfl]
      · rw [w40, if_pos rfl]
      · rw [wz _ _ (by omega), zr _ _ (Or.inr rfl), if_neg (by omega), if_neg (by decide), if_neg (by decide), if_neg (by decide), if_pos rfl]
      · rw [wz _ _ (by omega), zr _ _ (Or.inr rfl), if_neg (by omega), if_neg (by decide), if_neg (by decide), if_pos rfl]
      · rw [wz _ _ (by omega), zr _ _ (Or.inr rfl), if_neg (by omega), if_neg (by decide), if_pos rfl, w53, ← x45 a' ha, ← x45 b' hb, ← x45 c' hcc]
      · rw [wz _ _ (by omega), zr _ _ (Or.inr rfl), if_neg (by omega), if_pos rfl, w54, s2, ← s1]
      · rw [wz _ _ (by omega), zr _ _ (Or.inr rfl), if_neg (by omega), if_neg (by decide), if_neg (by decide), if_neg (by decide), if_neg (by decide), if_pos rfl, w55]
      · rw [wz _ _ (by omega), zr _ _ (Or.inr rfl), if_neg (by omega), if_neg (by decide), if_neg (by decide), if_neg (by decide), if_neg (by decide), if_neg (by decide)]
      · rw [wz _ _ (by omega), zr _ _ (Or.inr rfl), if_neg (by omega), if_neg (by decide), if_neg (by decide), if_neg (by decide), if_neg (by decide), if_neg (by decide)]
    · intro r hr
      by_cases g1 : r < nr
      · exact lf_fr g1 (a6 r g1) (fun d i g => e d i (by unfold dL at g; omega))
      · have g2 : r = nr := by omega
        subst g2
        have c9 := imin_1_9 (b45 a' ha) (imin_1_9 (b45 b' hb) (b45 c' hcc))
        refine Or.inl ⟨w52, by rw [w53]; exact c9.1, by rw [w53]; exact c9.2, w52, fun j hj => ?_, ?_⟩
        · rw [wz (400 + r) j (by omega), wz (600 + r) j (by omega), z4, z6, w56, w57]
          have b1 := b45 a' ha; have b2 := b45 b' hb; have b3 := b45 c' hcc
          unfold row3 va_up
          rcases (by omega : j = 0 ∨ j = 1 ∨ j = 2) with q | q | q <;> subst q
          · clear zg zr wg wm e; grind
          · clear zg zr wg wm e; grind
          · clear zg zr wg wm e; grind
        · rw [w53, w57, w57, w57, if_neg (by omega), if_neg (by omega), if_pos rfl, if_neg (by omega), if_pos rfl, if_pos rfl]
    · exact iB_mono (iB_fr a7 (fun d i g => e d i (by unfold dB at g; omega)) (fun p g => er 10 p (by omega))) (by omega)
    · exact iK_mono (iK_fr a8 (fun d i g => e d i (by unfold dK at g; omega)) (fun i g => ⟨er 15 i (by omega), by funext j; exact er (800 + i) j (by omega)⟩)) (by omega)
