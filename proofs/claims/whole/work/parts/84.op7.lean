/-! calls of both: lay, strands, ropeOf -/
theorem free_eq {ι : gIm} {ρ : gRm} {Λ : gLm} {yr wk r : Nat} (h : iN1 ι ρ Λ r) (hS : iS ι yr wk) : xFree (ι (200 + r) 6) (ι (200 + r) 7) (ι (200 + r) 3) (ι 2 0) = sFree (ι 58 r) (ι 54 r) (ι 40 2) := by
  obtain ⟨-, -, ⟨u1, u2, u3, u4, u5⟩, u6⟩ := h
  unfold xFree sFree
  rw [u4, hS.1, hS.2.1]
  by_cases q : ι 58 r = 0
  · have := u6.mp q
    by_cases q2 : ι 54 r = nI yr
    · rw [if_pos ⟨this.1, this.2, q2⟩, if_pos ⟨q, q2⟩]
    · rw [if_neg (fun g => q2 g.2.2), if_neg (fun g => q2 g.2)]
  · rw [if_neg (fun g => q (u6.mpr ⟨g.1, g.2.1⟩)), if_neg (fun g => q g.1)]
theorem kd_eq {ι : gIm} {ρ : gRm} {Λ : gLm} {nr r : Nat} (h : iN ι ρ Λ nr) (hr : r < nr) : ι (200 + r) 1 = ι 52 r := (h.2.2.2.1 r hr).2.2.1.2.1
theorem ec_lay {ι : gIm} {ρ : gRm} {Λ : gLm} {nr yr wk : Nat} (h : iN ι ρ Λ nr) (hS : iS ι yr wk) (a b c x : Int32) : cLay a b c (nI nr) (ι 52 a.toNatClampNeg) (ι 52 b.toNatClampNeg) (ι 52 c.toNatClampNeg) (sFree (ι 58 a.toNatClampNeg) (ι 54 a.toNatClampNeg) (ι 40 2)) (sFree (ι 58 b.toNatClampNeg) (ι 54 b.toNatClampNeg) (ι 40 2)) (sFree (ι 58 c.toNatClampNeg) (ι 54 c.toNatClampNeg) (ι 40 2)) x =
    cLay a b c (nI nr) (ι (200 + a.toNatClampNeg) 1) (ι (200 + b.toNatClampNeg) 1) (ι (200 + c.toNatClampNeg) 1) (xFree (ι (200 + a.toNatClampNeg) 6) (ι (200 + a.toNatClampNeg) 7) (ι (200 + a.toNatClampNeg) 3) (ι 2 0)) (xFree (ι (200 + b.toNatClampNeg) 6) (ι (200 + b.toNatClampNeg) 7) (ι (200 + b.toNatClampNeg) 3) (ι 2 0)) (xFree (ι (200 + c.toNatClampNeg) 6) (ι (200 + c.toNatClampNeg) 7) (ι (200 + c.toNatClampNeg) 3) (ι 2 0)) x := by
  have h3 := h.2.2.1
  have h4 := h.2.2.2.1
  unfold cLay
  by_cases g : (0 ≤ a ∧ a < nI nr) ∧ (0 ≤ b ∧ b < nI nr) ∧ (0 ≤ c ∧ c < nI nr) ∧ ¬ a = b ∧ ¬ b = c ∧ ¬ a = c
  · have ga := nn_i g.1 (by omega)
    have gb := nn_i g.2.1 (by omega)
    have gc := nn_i g.2.2.1 (by omega)
    rw [if_pos g, if_pos g, ← kd_eq h ga, ← kd_eq h gb, ← kd_eq h gc, free_eq (h4 _ ga) hS, free_eq (h4 _ gb) hS, free_eq (h4 _ gc) hS]
  · rw [if_neg g, if_neg g]
theorem cLay_0 {a b c n ka kb kc fa fb fc r : Int32} (h : cLay a b c n ka kb kc fa fb fc r = 0) : ((0 ≤ a ∧ a < n) ∧ (0 ≤ b ∧ b < n) ∧ (0 ≤ c ∧ c < n) ∧ ¬ a = b ∧ ¬ b = c ∧ ¬ a = c) ∧ (ka = kb ∧ kb = kc ∧ ¬ ka = 2) ∧ ¬ r = 200 := by
  unfold cLay at h
  split at h
  · rename_i h1
    split at h
    · rename_i h2
      split at h
      · split at h
        · exact absurd h (by decide)
        · rename_i h3
          exact ⟨h1, h2, h3⟩
      · exact absurd h (by decide)
    · exact absurd h (by decide)
  · exact absurd h (by decide)
theorem ly_x (ι : gIm) (nr L a b c : Nat) (y : Int32) (d j : Nat) (ha : a < nr) (hb : b < nr) (hc : c < nr) (hr : nr < 200) (h : ¬ (d = 7 ∨ d = 200 + nr ∨ d = 400 + nr ∨ d = 600 + nr)) : xLayI ι nr L a b c y d j = if (d = 200 + a ∨ d = 200 + b ∨ d = 200 + c) ∧ j = 6 then 1 else ι d j := by
  unfold xLayI
  rw [xr_get _ _ _ _ _ _ _ (by omega), if_neg (by omega), if_neg (by omega), va_up_ne _ _ (by omega), va_up_ne _ _ (by omega)]
  simp only [up2_get]
  grind
theorem ly_xr (ι : gIm) (nr L a b c : Nat) (y : Int32) (d j : Nat) (ha : a < nr) (hb : b < nr) (hc : c < nr) (hr : nr < 200) (h : d = 7 ∨ d = 200 + nr) : xLayI ι nr L a b c y d j = if d = 7 then (if j = 1 then nI nr + 1 else ι 7 j) else (if j = 3 then y else if j = 2 then imax 1 (ι (200 + a) 2 + ι (200 + b) 2 + ι (200 + c) 2 - 2) else if j = 1 then ι (200 + a) 1 + 1 else if j = 0 then nI nr else if j = 8 then -9 else 0) := by
  unfold xLayI
  rw [xr_get _ _ _ _ _ _ _ (by omega)]
  by_cases h7 : d = 7
  · rw [if_pos h7, if_pos h7, va_up_ne _ _ (by omega), va_up_ne _ _ (by omega), up2_ne _ _ _ (by omega), up2_ne _ _ _ (by omega), up2_ne _ _ _ (by omega)]
  · rw [if_neg h7, if_neg h7, if_pos (by omega)]
theorem ly_4 (ι : gIm) (nr L a b c : Nat) (y : Int32) (ha : a < nr) (hb : b < nr) (hc : c < nr) (hr : nr < 200) : xLayI ι nr L a b c y (400 + nr) = jn L (ι (400 + a)) (ι (400 + b)) (ι (400 + c)) ∧ xLayI ι nr L a b c y (600 + nr) = jn L (ι (600 + a)) (ι (600 + b)) (ι (600 + c)) := by
  unfold xLayI
  constructor
  · funext j
    rw [xr_get _ _ _ _ _ _ _ (by omega), if_neg (by omega), if_neg (by omega), va_up_ne _ _ (by omega), va_up_self]
  · funext j
    rw [xr_get _ _ _ _ _ _ _ (by omega), if_neg (by omega), if_neg (by omega), va_up_self]
theorem ly_m (z : gIm) (nr a b c d j : Nat) (ha : a < nr) (hb : b < nr) (hc : c < nr) (hr : nr < 200) : mLay z nr (nI a) (nI b) (nI c) d j = if d = 40 then (if j = 5 then nI nr + 1 else z 40 j) else if d = 56 then (if j = 3 * nr then nI a else if j = 3 * nr + 1 then nI b else if j = 3 * nr + 2 then nI c else z 56 j) else
    if d = 52 ∧ j = nr then z 52 a + 1 else if d = 53 ∧ j = nr then imax 1 (z 53 a + z 53 b + z 53 c - 2) else if d = 54 ∧ j = nr then z 40 2 else if d = 55 ∧ j = nr then -9 else if d = 58 ∧ (j = a ∨ j = b ∨ j = c) then 1 else z d j := by
  unfold mLay
  rw [ma_get, nI_cl1 (by omega), nI_cl1 (by omega), nI_cl1 (by omega)]
  have e : ∀ k, ¬ k = 58 → up2 (up2 (up2 z 58 a 1) 58 b 1) 58 c 1 k = z k := fun k hk => by rw [up2_ne _ _ _ hk, up2_ne _ _ _ hk, up2_ne _ _ _ hk]
  rw [e 40 (by decide), e 56 (by decide)]
  by_cases h58 : d = 58
  · subst h58
    rw [if_neg (by decide), if_neg (by decide), if_neg (by omega), if_neg (by omega), if_neg (by omega), if_neg (by omega), if_neg (by decide), if_neg (by decide), if_neg (by omega), if_neg (by omega), if_neg (by omega), if_neg (by omega)]
    simp only [up2_get]
    grind
  · rw [e d h58, if_neg (show ¬ (d = 58 ∧ (j = a ∨ j = b ∨ j = c)) by omega)]
theorem lay_le {m : Nat} {x y w : Int32} (hm : m ≤ 27) (hx : 1 ≤ x ∧ x ≤ nI m) (hy : 1 ≤ y ∧ y ≤ nI m) (hw : 1 ≤ w ∧ w ≤ nI m) : 1 ≤ imax 1 (x + y + w - 2) ∧ imax 1 (x + y + w - 2) ≤ nI (3 * m) := by
  have one : (1 : Int32) = nI 1 := rfl
  obtain ⟨x', hx1, rfl⟩ := nI_of2 (M := nI m) (n := m) (nI_toInt (by omega)) (by grind) hx.2
  obtain ⟨y', hy1, rfl⟩ := nI_of2 (M := nI m) (n := m) (nI_toInt (by omega)) (by grind) hy.2
  obtain ⟨w', hw1, rfl⟩ := nI_of2 (M := nI m) (n := m) (nI_toInt (by omega)) (by grind) hw.2
  have gx := (nI_leI (a := 1) (by omega) (by omega)).mp hx.1
  have gy := (nI_leI (a := 1) (by omega) (by omega)).mp hy.1
  have gw := (nI_leI (a := 1) (by omega) (by omega)).mp hw.1
  rw [nI_add, nI_add, show (2 : Int32) = nI 2 from rfl, nI_sub (by omega)]
  unfold imax
  split
  · rename_i h
    exact ⟨Int32.le_of_lt h, nI_le (by omega) (by omega)⟩
  · exact ⟨Int32.le_refl _, show nI 1 ≤ _ from nI_le (by omega) (by omega)⟩
theorem cn_3 {k : Int32} (h : k = 0 ∨ k = 1) : 3 * cn k = cn (k + 1) := by rcases h with h | h <;> subst h <;> decide
theorem jn_at (L : Nat) (f g h : Nat → Int32) (i k : Nat) (hi : i < 3) (hk : k < L) : jn L f g h (i * L + k) = if i = 0 then f k else if i = 1 then g k else h k := by
  unfold jn
  rcases (by omega : i = 0 ∨ i = 1 ∨ i = 2) with q | q | q <;> subst q
  · rw [if_pos (by omega), if_pos rfl]; congr 1; omega
  · rw [if_neg (by omega), if_pos (by omega), if_neg (by decide), if_pos rfl]; congr 1; omega
  · rw [if_neg (by omega), if_neg (by omega), if_pos (by omega), if_neg (by decide), if_neg (by decide)]; congr 1; omega
theorem i32_ne {a b : Nat} (h : ¬ nI a = nI b) : ¬ a = b := fun e => h (by rw [e])
theorem lf_kd {ι : gIm} {r : Nat} (h : lf ι r) : ι 52 r = 0 ∨ ι 52 r = 1 ∨ ι 52 r = 2 := by
  rcases h with h | h | h
  · exact Or.inl h.1
  · exact Or.inr (Or.inl h.1)
  · exact Or.inr (Or.inr h.1)
set_option maxRecDepth 4000 in
theorem o_lay {k : Nat} {ι : gIm} {ρ : gRm} {Λ : gLm} {yr wk nh nr nb ns np ch : Nat} (h : Inv8 k ι ρ Λ yr wk nh nr nb ns np ch) (a b c : Int32) : Both k 5 3 3 63 jX11_lay jX12_lay [vI a, vI b, vI c] ι ρ Λ := by
  obtain ⟨a1, a2, a3, a4, a5, a6, a7, a8, a9, b1, b2, b3, b4⟩ := id h
  have q1 : nh ≤ 24 := a4.2.2.1
  have q2 : nr ≤ 200 := a5.2.2.1
  have q3 : nb ≤ 40 := a8.2.2.1
  have q4 : ns ≤ 12 := a9.2.2.1
  have q5 : np ≤ 30 := b1.2.2.1
  obtain ⟨s1, s2, s3, s4, s5, s6, s7⟩ := id a3
  obtain ⟨h1, h2, h3, h4, h5, h6⟩ := id a4
  obtain ⟨n1, n2, n3, n4, n5⟩ := id a5
  refine both_of (M := fun z => mLay z nr a b c) h (fun K => x_lay K a b c ι ρ Λ a1 nr n1 n3 (fun r hr => (n4 r hr).1.1) (fun r hr => (n4 r hr).1.2) (fun r hr => (n4 r hr).2.1) (fun r hr => by rw [kd_eq a5 hr]; exact lf_kd (a6 r hr)) (b3.2.1 nr (Nat.le_refl _)) (show nI nr ≤ nI 200 from nI_le n3 (by omega))) (fun hc d g1 g2 => ?_) (fun K z ρ1 Λ1 hF hz => ?_) (fun hc => ?_)
  · obtain ⟨⟨f1, f2, f3, -⟩, -, f7⟩ := cLay_0 hc
    have hnr := rope_lt f7 n3
    funext j
    unfold xLayO
    rw [ly_x _ _ _ _ _ _ _ _ _ (nn_i f1 (by omega)) (nn_i f2 (by omega)) (nn_i f3 (by omega)) hnr (by omega), if_neg (by omega)]
  · have m := m_lay K a b c z ρ1 Λ1 hF nr ((congrFun (hz 40 (by omega) (by omega)) 5).trans n2) n3
    rw [hz 52 (by omega) (by omega), hz 58 (by omega) (by omega), hz 54 (by omega) (by omega), hz 40 (by omega) (by omega), ec_lay a5 a3] at m
    exact m
  · obtain ⟨⟨f1, f2, f3, f4, f5, f6⟩, ⟨f8, f9, f10⟩, f7⟩ := cLay_0 hc
    have hnr := rope_lt f7 n3
    obtain ⟨a', ha, ra⟩ := i32_of f1 (by omega)
    obtain ⟨b', hb, rb⟩ := i32_of f2 (by omega)
    obtain ⟨c', hcc, rc⟩ := i32_of f3 (by omega)
    subst ra; subst rb; subst rc
    have f4 := i32_ne f4
    have f5 := i32_ne f5
    have f6 := i32_ne f6
    clear hc
    rw [nI_cl1 (by omega), nI_cl1 (by omega), kd_eq a5 ha, kd_eq a5 hb] at f8
    rw [nI_cl1 (by omega), nI_cl1 (by omega), kd_eq a5 hb, kd_eq a5 hcc] at f9
    rw [nI_cl1 (by omega), kd_eq a5 ha] at f10
    rw [nI_cl1 (by omega), nI_cl1 (by omega), nI_cl1 (by omega), kd_eq a5 ha]
    unfold xLayO
    rw [kd_eq a5 ha]
    have hk01 : ι 52 a' = 0 ∨ ι 52 a' = 1 := by
      rcases lf_kd (a6 a' ha) with q | q | q
      · exact Or.inl q
      · exact Or.inr q
      · exact absurd q f10
    generalize hL : cn (ι 52 a') = L
    generalize hz : xLayI ι nr L a' b' c' (ι 2 0) = z
    have zg : ∀ d j, ¬ (d = 7 ∨ d = 200 + nr ∨ d = 400 + nr ∨ d = 600 + nr) → z d j = if (d = 200 + a' ∨ d = 200 + b' ∨ d = 200 + c') ∧ j = 6 then 1 else ι d j := fun d j q => by rw [← hz, ly_x _ _ _ _ _ _ _ _ _ ha hb hcc hnr q]
    have zm : ∀ d, 40 ≤ d → d < 77 → z d = ι d := by
      intro d g1 g2
      funext j
      rw [zg d j (by omega), if_neg (by omega)]
    have zr : ∀ d j, d = 7 ∨ d = 200 + nr → z d j = if d = 7 then (if j = 1 then nI nr + 1 else ι 7 j) else (if j = 3 then ι 2 0 else if j = 2 then imax 1 (ι (200 + a') 2 + ι (200 + b') 2 + ι (200 + c') 2 - 2) else if j = 1 then ι (200 + a') 1 + 1 else if j = 0 then nI nr else if j = 8 then -9 else 0) := fun d j q => by rw [← hz, ly_xr _ _ _ _ _ _ _ _ _ ha hb hcc hnr q]
    have z46 : z (400 + nr) = jn L (ι (400 + a')) (ι (400 + b')) (ι (400 + c')) ∧ z (600 + nr) = jn L (ι (600 + a')) (ι (600 + b')) (ι (600 + c')) := by rw [← hz]; exact ly_4 _ _ _ _ _ _ _ ha hb hcc hnr
    generalize hw : mLay z nr (nI a') (nI b') (nI c') = w
    have wg : ∀ d j, w d j = if d = 40 then (if j = 5 then nI nr + 1 else z 40 j) else if d = 56 then (if j = 3 * nr then nI a' else if j = 3 * nr + 1 then nI b' else if j = 3 * nr + 2 then nI c' else z 56 j) else
        if d = 52 ∧ j = nr then z 52 a' + 1 else if d = 53 ∧ j = nr then imax 1 (z 53 a' + z 53 b' + z 53 c' - 2) else if d = 54 ∧ j = nr then z 40 2 else if d = 55 ∧ j = nr then -9 else if d = 58 ∧ (j = a' ∨ j = b' ∨ j = c') then 1 else z d j := fun d j => by rw [← hw, ly_m _ _ _ _ _ _ _ ha hb hcc hnr]
    have wz : ∀ d j, ¬ (40 ≤ d ∧ d < 77) → w d j = z d j := by
      intro d j q
      rw [wg d j, if_neg (by omega), if_neg (by omega), if_neg (by omega), if_neg (by omega), if_neg (by omega), if_neg (by omega), if_neg (by omega)]
    have w40 : ∀ j, w 40 j = if j = 5 then nI nr + 1 else ι 40 j := fun j => by rw [wg 40 j, if_pos rfl, zm 40 (by omega) (by omega)]
    have w56 : ∀ j, w 56 j = if j = 3 * nr then nI a' else if j = 3 * nr + 1 then nI b' else if j = 3 * nr + 2 then nI c' else ι 56 j := fun j => by rw [wg 56 j, if_neg (by omega), if_pos rfl, zm 56 (by omega) (by omega)]
    have w52 : w 52 nr = ι 52 a' + 1 := by rw [wg 52 nr, if_neg (by omega), if_neg (by omega), if_pos ⟨rfl, rfl⟩, zm 52 (by omega) (by omega)]
    have w53 : w 53 nr = imax 1 (ι 53 a' + ι 53 b' + ι 53 c' - 2) := by rw [wg 53 nr, if_neg (by omega), if_neg (by omega), if_neg (by omega), if_pos ⟨rfl, rfl⟩, zm 53 (by omega) (by omega)]
    have w54 : w 54 nr = ι 40 2 := by rw [wg 54 nr, if_neg (by omega), if_neg (by omega), if_neg (by omega), if_neg (by omega), if_pos ⟨rfl, rfl⟩, zm 40 (by omega) (by omega)]
    have w55 : w 55 nr = -9 := by rw [wg 55 nr, if_neg (by omega), if_neg (by omega), if_neg (by omega), if_neg (by omega), if_neg (by omega), if_pos ⟨rfl, rfl⟩]
    have w58 : ∀ j, w 58 j = if j = a' ∨ j = b' ∨ j = c' then 1 else ι 58 j := by
      intro j
      rw [wg 58 j, if_neg (by omega), if_neg (by omega), if_neg (by omega), if_neg (by omega), if_neg (by omega), if_neg (by omega), zm 58 (by omega) (by omega)]
      by_cases q : j = a' ∨ j = b' ∨ j = c'
      · rw [if_pos ⟨rfl, q⟩, if_pos q]
      · rw [if_neg (fun g => q g.2), if_neg q]
    have e : ∀ d j, ¬ ((200 ≤ d ∧ d < 200 + nr ∧ j = 6) ∨ (d = 7 ∧ j = 1) ∨ d = 200 + nr ∨ d = 400 + nr ∨ d = 600 + nr ∨ (d = 40 ∧ j = 5) ∨ (d = 56 ∧ 3 * nr ≤ j ∧ j ≤ 3 * nr + 2) ∨ (52 ≤ d ∧ d ≤ 55 ∧ j = nr) ∨ (d = 58 ∧ j < nr)) → w d j = ι d j := by
      intro d j q
      by_cases q1 : d = 40
      · subst q1; rw [w40, if_neg (by omega)]
      · by_cases q2 : d = 56
        · subst q2; rw [w56, if_neg (by omega), if_neg (by omega), if_neg (by omega)]
        · rw [wg d j, if_neg (by omega), if_neg (by omega), if_neg (by omega), if_neg (by omega), if_neg (by omega), if_neg (by omega), if_neg (by omega)]
          by_cases q4 : d = 7
          · subst q4
            rw [zr 7 j (by omega), if_pos rfl, if_neg (by omega)]
          · rw [zg d j (by omega), if_neg (by omega)]
    have er : ∀ d j, ¬ ((d = 8 ∧ j = nr) ∨ d = 200 + nr ∨ d = 400 + nr ∨ d = 600 + nr) → xRopeR ρ nr d j = ρ d j := fun d j q => by
      rw [xrR_get _ _ _ _ hnr, if_neg (by omega), if_neg (by omega), if_neg (by omega)]
    have x2 : ∀ r, r < nr → ι (200 + r) 2 = ι 53 r := fun r hr => (n4 r hr).2.2.1.2.2.1
    refine ⟨yr, wk, nh, nr + 1, nb, ns, np, ch, xr_fix a1 nr (3 * L), iR_fr a2 (fun d i g => e d i (by unfold dR at g; omega)), iS_fr a3 (fun d i g => e d i (by unfold dS at g; omega)), iH_fr a4 (fun d i g => e d i (by unfold dH at g; omega)) (fun i g => er 5 i (by omega)), ?_, ?_, ?_, ?_, iW_fr a9 (fun d i g => e d i (by unfold dW at g; omega)), iP_fr b1 (fun d i g => e d i (by unfold dP at g; omega)), iQ_fr b2 (fun d i g => e d i (by unfold dQ at g; omega)), xr_iF b3 hnr (3 * L), by omega⟩
    · refine iN_new (kd := ι 52 a' + 1) a5 hnr (3 * L) (by rw [← hL]; exact cn_3 hk01) (fun r j g1 g2 => e _ _ (by omega)) (fun d r g1 g2 => e _ _ (by omega)) (fun r g1 => ?_) (fun r g1 g2 => e _ _ (by omega)) ?_ ?_ ⟨?_, ?_, ?_, ?_, ?_, ?_, ?_, w52⟩
      · have u := (n4 r g1).2.2.2
        rw [w58, wz _ _ (by omega), wz _ _ (by omega), zg _ _ (by omega), zg _ _ (by omega), if_neg (show ¬ ((200 + r = 200 + a' ∨ 200 + r = 200 + b' ∨ 200 + r = 200 + c') ∧ 7 = 6) by omega)]
        by_cases q : r = a' ∨ r = b' ∨ r = c'
        · rw [if_pos q, if_pos (by omega)]
          exact ⟨fun g => absurd g (by decide), fun g => absurd g.1 (by decide)⟩
        · rw [if_neg q, if_neg (by omega)]; exact u
      · rw [wz _ _ (by omega), zr 7 1 (by omega), if_pos rfl, if_pos rfl]
      · rw [w40, if_pos rfl]
      · rw [wz _ _ (by omega), zr _ _ (Or.inr rfl), if_neg (by omega), if_neg (by decide), if_neg (by decide), if_neg (by decide), if_pos rfl]
      · rw [wz _ _ (by omega), zr _ _ (Or.inr rfl), if_neg (by omega), if_neg (by decide), if_neg (by decide), if_pos rfl, kd_eq a5 ha]
      · rw [wz _ _ (by omega), zr _ _ (Or.inr rfl), if_neg (by omega), if_neg (by decide), if_pos rfl, w53, x2 a' ha, x2 b' hb, x2 c' hcc]
      · rw [wz _ _ (by omega), zr _ _ (Or.inr rfl), if_neg (by omega), if_pos rfl, w54, s2, ← s1]
      · rw [wz _ _ (by omega), zr _ _ (Or.inr rfl), if_neg (by omega), if_neg (by decide), if_neg (by decide), if_neg (by decide), if_neg (by decide), if_pos rfl, w55]
      · rw [wz _ _ (by omega), zr _ _ (Or.inr rfl), if_neg (by omega), if_neg (by decide), if_neg (by decide), if_neg (by decide), if_neg (by decide), if_neg (by decide)]
      · rw [wz _ _ (by omega), zr _ _ (Or.inr rfl), if_neg (by omega), if_neg (by decide), if_neg (by decide), if_neg (by decide), if_neg (by decide), if_neg (by decide)]
    · intro r hr
      by_cases g1 : r < nr
      · exact lf_fr g1 (a6 r g1) (fun d i g => e d i (by unfold dL at g; omega))
      · have g2 : r = nr := by omega
        subst g2
        have hG : lfG w r := by
          intro i hi
          have hq : ∃ q, q < r ∧ w 56 (3 * r + i) = nI q ∧ ι 52 q = ι 52 a' ∧ ∀ k, k < L → w (400 + r) (i * L + k) = ι (400 + q) k ∧ w (600 + r) (i * L + k) = ι (600 + q) k := by
            have e4 : ∀ k, k < L → w (400 + r) (i * L + k) = if i = 0 then ι (400 + a') k else if i = 1 then ι (400 + b') k else ι (400 + c') k := fun k hk => by
              rw [wz _ _ (by omega), z46.1, jn_at L _ _ _ i k hi hk]
            have e6 : ∀ k, k < L → w (600 + r) (i * L + k) = if i = 0 then ι (600 + a') k else if i = 1 then ι (600 + b') k else ι (600 + c') k := fun k hk => by
              rw [wz _ _ (by omega), z46.2, jn_at L _ _ _ i k hi hk]
            rcases (by omega : i = 0 ∨ i = 1 ∨ i = 2) with q | q | q <;> subst q
            · exact ⟨a', ha, by rw [w56, if_pos (by omega)], rfl, fun k hk => ⟨by rw [e4 k hk, if_pos rfl], by rw [e6 k hk, if_pos rfl]⟩⟩
            · exact ⟨b', hb, by rw [w56, if_neg (by omega), if_pos (by omega)], f8.symm, fun k hk => ⟨by rw [e4 k hk, if_neg (by decide), if_pos rfl], by rw [e6 k hk, if_neg (by decide), if_pos rfl]⟩⟩
            · exact ⟨c', hcc, by rw [w56, if_neg (by omega), if_neg (by omega), if_pos (by omega)], (f8.trans f9).symm, fun k hk => ⟨by rw [e4 k hk, if_neg (by decide), if_neg (by decide)], by rw [e6 k hk, if_neg (by decide), if_neg (by decide)]⟩⟩
          obtain ⟨q, g3, g4, g5, g6⟩ := hq
          refine ⟨q, g3, g4, ?_, ?_⟩
          · rw [e 52 q (by omega), w52, g5]
          · rw [e 52 q (by omega), g5, hL]
            intro k hk
            rw [e (400 + q) k (by omega), e (600 + q) k (by omega)]
            exact g6 k hk
        unfold lf
        rw [w52, w53]
        have la := a6 a' ha; have lb := a6 b' hb; have lc := a6 c' hcc
        rcases hk01 with q | q
        · have qb : ι 52 b' = 0 := f8.symm.trans q
          have qc : ι 52 c' = 0 := f9.symm.trans qb
          have bd : ∀ r, lf ι r → ι 52 r = 0 → 1 ≤ ι 53 r ∧ ι 53 r ≤ nI 9 := by
            intro r hr h0
            rcases hr with g | g | g
            · exact ⟨g.2.1, g.2.2.1⟩
            · rw [h0] at g; exact absurd g.1 (by decide)
            · rw [h0] at g; exact absurd g.1 (by decide)
          have := lay_le (m := 9) (by omega) (bd a' la q) (bd b' lb qb) (bd c' lc qc)
          exact Or.inr (Or.inl ⟨by rw [q]; decide, this.1, this.2, hG⟩)
        · have qb : ι 52 b' = 1 := f8.symm.trans q
          have qc : ι 52 c' = 1 := f9.symm.trans qb
          have bd : ∀ r, lf ι r → ι 52 r = 1 → 1 ≤ ι 53 r ∧ ι 53 r ≤ nI 27 := by
            intro r hr h0
            rcases hr with g | g | g
            · rw [h0] at g; exact absurd g.1 (by decide)
            · exact ⟨g.2.1, g.2.2.1⟩
            · rw [h0] at g; exact absurd g.1 (by decide)
          have := lay_le (m := 27) (by omega) (bd a' la q) (bd b' lb qb) (bd c' lc qc)
          exact Or.inr (Or.inr ⟨by rw [q]; decide, this.1, this.2, hG⟩)
    · exact iB_mono (iB_fr a7 (fun d i g => e d i (by unfold dB at g; omega)) (fun p g => er 10 p (by omega))) (by omega)
    · exact iK_mono (iK_fr a8 (fun d i g => e d i (by unfold dK at g; omega)) (fun i g => ⟨er 15 i (by omega), by funext j; exact er (800 + i) j (by omega)⟩)) (by omega)
