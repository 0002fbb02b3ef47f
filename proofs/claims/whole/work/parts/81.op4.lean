/-! calls of both: close -/
theorem xc_get (ι : gIm) (nh d j : Nat) : xTurn (xSettle ι nh) d j = if d = 3 then (if j < 52 then -1 else ι 3 j) else if d = 2 then (if j = 1 then 0 else if j = 0 then ι 2 0 + 1 else ι 2 j) else if d = 6 then (if j < nh then xkShare ι nh j else ι 6 j) else
    if 100 ≤ d ∧ d < 100 + nh then (if j = 7 ∨ j = 6 ∨ j = 5 then 0 else if j = 8 then ι d 8 + ((if d - 100 < nh then xkShare ι nh (d - 100) else ι 6 (d - 100)) - ι d 5) else ι d j) else ι d j := by
  unfold xTurn xTurn1 xSettle
  rw [va_up2_get]
  by_cases h3 : d = 3
  · rw [if_pos h3, if_pos h3]
    unfold fil
    by_cases hj : j < 52
    · rw [if_pos hj, if_pos hj]
    · rw [if_neg hj, if_neg hj, up2_ne _ _ _ (by decide), up2_ne _ _ _ (by decide)]
      unfold xSet2 xSet1
      rw [if_neg (by omega), va_up_ne _ _ (by decide)]
  · rw [if_neg h3, if_neg h3, up2_get, up2_get]
    by_cases h2 : d = 2
    · subst h2
      rw [if_pos rfl]
      have : ∀ j, xSet2 (xSet1 ι nh nh) nh 2 j = ι 2 j := by
        intro j
        unfold xSet2 xSet1
        rw [if_neg (by omega), va_up_ne _ _ (by decide)]
      rw [this, this]
      grind
    · rw [if_neg (fun q => h2 q.1), if_neg (fun q => h2 q.1), if_neg h2]
      unfold xSet2
      by_cases h6 : d = 6
      · subst h6
        rw [if_pos rfl, if_neg (by omega)]
        unfold xSet1
        rw [va_up_self]
        rfl
      · rw [if_neg h6]
        by_cases h100 : 100 ≤ d ∧ d < 100 + nh
        · rw [if_pos h100, if_pos h100]
          unfold xSetR xSet1
          rw [va_up_ne _ _ h6, va_up_self]
          unfold va_up fil
          grind
        · rw [if_neg h100, if_neg h100]
          unfold xSet1
          rw [va_up_ne _ _ h6]
theorem mc_get (z : gIm) (nh d j : Nat) : mClose z nh d j = if d = 40 then (if j = 3 then 0 else if j = 2 then z 40 2 + 1 else z 40 j) else if d = 62 then (if j < 6 then z 62 j + 1 else z 62 j) else if d = 42 then (if j < 52 then -1 else z 42 j) else
    if (d = 48 ∨ d = 46 ∨ d = 51) ∧ j < nh then 0 else if d = 49 ∧ j < nh then z 49 j + (kShare z nh j - (if z 51 j = 0 then 0 else z 46 j)) else if d = 64 ∧ j < nh then kShare z nh j else z d j := by
  have e1 : ∀ c i, ¬ c = 64 → mCl1 z nh nh c i = z c i := fun c i hc => by unfold mCl1; rw [va_up_ne _ _ hc]
  have e64 : ∀ i, mCl1 z nh nh 64 i = if i < nh then kShare z nh i else z 64 i := fun i => by unfold mCl1; rw [va_up_self]; rfl
  have e2 : ∀ c i, mCl2 (mCl1 z nh nh) nh c i = if (c = 48 ∨ c = 46 ∨ c = 51) ∧ i < nh then 0 else if c = 49 ∧ i < nh then z 49 i + (kShare z nh i - (if z 51 i = 0 then 0 else z 46 i)) else if c = 64 ∧ i < nh then kShare z nh i else z c i := by
    intro c i
    unfold mCl2 kOwe
    simp only [va_up2_get, fil]
    have a := e1 c i
    have b := e64 i
    have c1 := e1 49 i (by decide)
    have c2 := e1 51 i (by decide)
    have c3 := e1 46 i (by decide)
    have c4 := e1 48 i (by decide)
    by_cases q1 : c = 48
    · subst q1; rw [if_pos rfl]; grind
    · rw [if_neg q1]
      by_cases q2 : c = 46
      · subst q2; grind
      · rw [if_neg q2]
        by_cases q3 : c = 51
        · subst q3; grind
        · rw [if_neg q3]
          grind
  unfold mClose mCl4 mCl3
  simp only [up2_get, va_up2_get, fil, e2]
  grind
theorem o_close {k : Nat} {ι : gIm} {ρ : gRm} {Λ : gLm} {yr wk nh nr nb ns np ch : Nat} (h : Inv8 k ι ρ Λ yr wk nh nr nb ns np ch) : Both k 4 3 0 0 jX11_close jX12_close [] ι ρ Λ := by
  obtain ⟨a1, a2, a3, a4, a5, a6, a7, a8, a9, b1, b2, b3, b4⟩ := id h
  have q1 : nh ≤ 24 := a4.2.2.1
  have q2 : nr ≤ 200 := a5.2.2.1
  have q3 : nb ≤ 40 := a8.2.2.1
  have q4 : ns ≤ 12 := a9.2.2.1
  have q5 : np ≤ 30 := b1.2.2.1
  obtain ⟨s1, s2, s3, s4, s5, s6, s7⟩ := id a3
  obtain ⟨h1, h2, h3, h4, h5, h6⟩ := id a4
  have hy : ι 2 0 ≤ 60 := by rw [s1]; exact (show nI yr ≤ nI 60 from nI_le s3 (by omega))
  refine both_of (M := fun z => mClose z nh) (ρ' := ρ) (Λ' := Λ) h (fun K => by rw [sel_same, sel_same]; exact x_close K ι ρ Λ a1 nh h1 h3 (fun i hi => (h5 i hi).1) (fun i hi => (h5 i hi).2.1.1) (iH_hall a4) hy) (fun _ d g1 g2 => ?_) (fun K z ρ1 Λ1 hF hz => ?_) (fun hc => ?_)
  · funext i
    rw [xc_get, if_neg (by omega), if_neg (by omega), if_neg (by omega), if_neg (by omega)]
  · have m := m_close K z ρ1 Λ1 hF nh ((congrFun (hz 40 (by omega) (by omega)) 4).trans h2) h3 (by rw [hz 44 (by omega) (by omega), hz 50 (by omega) (by omega)]; exact iH_hallM a4)
    rw [hz 40 (by omega) (by omega), s2, ← s1] at m
    exact m
  · have hyr : yr < 60 := by
      rcases Nat.lt_or_ge yr 60 with g | g
      · exact g
      · rw [if_pos (by rw [s1, show yr = 60 by omega]; rfl)] at hc
        exact absurd hc (by decide)
    generalize hz : xTurn (xSettle ι nh) = z
    have zg : ∀ d j, z d j = _ := fun d j => by rw [← hz, xc_get]
    have zm : ∀ d, 40 ≤ d → d < 77 → z d = ι d := by
      intro d g1 g2
      funext i
      rw [zg, if_neg (by omega), if_neg (by omega), if_neg (by omega), if_neg (by omega)]
    have ek : ∀ i, kShare z nh i = kShare ι nh i := by
      intro i
      unfold kShare
      rw [zm 50 (by omega) (by omega), zm 44 (by omega) (by omega), zm 49 (by omega) (by omega), zm 40 (by omega) (by omega)]
    have e : ∀ d i, ¬ (d = 2 ∨ d = 3 ∨ d = 6 ∨ d = 42 ∨ d = 64 ∨ (100 ≤ d ∧ d < 100 + nh) ∨ ((d = 46 ∨ d = 48 ∨ d = 49 ∨ d = 51) ∧ i < nh) ∨ (d = 62 ∧ i < 6) ∨ (d = 40 ∧ (i = 2 ∨ i = 3))) → mClose z nh d i = ι d i := by
      intro d i q
      have : z d i = ι d i := by rw [zg, if_neg (by omega), if_neg (by omega), if_neg (by omega), if_neg (by omega)]
      rw [mc_get]
      grind
    have em : ∀ d i, ¬ (40 ≤ d ∧ d < 77) → mClose z nh d i = z d i := by
      intro d i q
      rw [mc_get, if_neg (by omega), if_neg (by omega), if_neg (by omega), if_neg (by omega), if_neg (by omega), if_neg (by omega)]
    refine ⟨yr + 1, 0, nh, nr, nb, ns, np, ch, a1, iR_fr a2 (fun d i g => e d i (by unfold dR at g; omega)), ?_, ?_, iN_fr a5 (fun d i g => e d i (by unfold dN at g; omega)) (fun _ _ => ⟨rfl, rfl⟩) (fun _ _ => ⟨rfl, rfl⟩), iL_fr a6 (fun d i g => e d i (by unfold dL at g; omega)), ?_, iK_fr a8 (fun d i g => e d i (by unfold dK at g; omega)) (fun _ _ => ⟨rfl, rfl⟩), iW_fr a9 (fun d i g => e d i (by unfold dW at g; omega)), iP_fr b1 (fun d i g => e d i (by unfold dP at g; omega)), iQ_fr b2 (fun d i g => e d i (by unfold dQ at g; omega)), b3, by omega⟩
    · refine ⟨?_, ?_, by omega, ?_, ?_, by omega, fun j hj => ?_⟩
      · rw [em _ _ (by omega), zg, if_neg (by omega), if_pos rfl, if_neg (by decide), if_pos rfl, s1, nI_succ]
      · rw [mc_get, if_pos rfl, if_neg (by decide), if_pos rfl, zm 40 (by omega) (by omega), s2, nI_succ]
      · rw [em _ _ (by omega), zg, if_neg (by omega), if_pos rfl, if_pos rfl]; rfl
      · rw [mc_get, if_pos rfl, if_pos rfl]; rfl
      · have g1 : mClose z nh 3 j = -1 := by rw [em _ _ (by omega), zg, if_pos rfl, if_pos hj]
        have g2 : mClose z nh 42 j = -1 := by rw [mc_get, if_neg (by decide), if_neg (by decide), if_pos rfl, if_pos hj]
        rw [g1, g2]
        exact ⟨rfl, by decide, by decide⟩
    · refine ⟨?_, ?_, h3, ?_, fun i hi => ⟨(h5 i hi).1, ?_⟩, fun i g4 g5 => ?_⟩
      · rw [e _ _ (by omega)]; exact h1
      · rw [e _ _ (by omega)]; exact h2
      · rw [e _ _ (by omega), e _ _ (by omega)]; exact h4
      · have hsh := iH_share a4 hi
        have hs2 : xkShare ι nh i = kShare ι nh i := hsh
        have x1 : ∀ j, ¬ (j = 7 ∨ j = 6 ∨ j = 5) → ¬ j = 8 → mClose z nh (100 + i) j = ι (100 + i) j := by
          intro j q1 q2
          rw [em _ _ (by omega), zg, if_neg (by omega), if_neg (by omega), if_neg (by omega), if_pos (by omega), if_neg q1, if_neg q2]
        have x2 : ∀ j, j = 7 ∨ j = 6 ∨ j = 5 → mClose z nh (100 + i) j = 0 := by
          intro j q1
          rw [em _ _ (by omega), zg, if_neg (by omega), if_neg (by omega), if_neg (by omega), if_pos (by omega), if_pos q1]
        have x3 : mClose z nh (100 + i) 8 = ι (100 + i) 8 + (kShare ι nh i - ι (100 + i) 5) := by
          rw [em _ _ (by omega), zg, if_neg (by omega), if_neg (by omega), if_neg (by omega), if_pos (by omega), if_neg (by decide), if_pos rfl, Nat.add_sub_cancel_left, if_pos hi, hs2]
        have m1 : ∀ d, d = 48 ∨ d = 46 ∨ d = 51 → mClose z nh d i = 0 := by
          intro d q
          rw [mc_get, if_neg (by omega), if_neg (by omega), if_neg (by omega), if_pos ⟨q, hi⟩]
        have m2 : mClose z nh 49 i = ι 49 i + (kShare ι nh i - (if ι 51 i = 0 then 0 else ι 46 i)) := by
          rw [mc_get, if_neg (by omega), if_neg (by omega), if_neg (by omega), if_neg (by omega), if_pos ⟨rfl, hi⟩, ek, zm 49 (by omega) (by omega), zm 51 (by omega) (by omega), zm 46 (by omega) (by omega)]
        have m3 : ∀ d, d = 43 ∨ d = 44 ∨ d = 45 ∨ d = 50 → mClose z nh d i = ι d i := fun d q => e d i (by omega)
        obtain ⟨⟨t0, t1, t2, t3, t4, t5, t6⟩, t7, t8, t9, u1, u2, u3⟩ := (h5 i hi).2
        unfold iH1
        rw [x1 0 (by omega) (by omega), x1 1 (by omega) (by omega), x1 2 (by omega) (by omega), x1 3 (by omega) (by omega), x1 4 (by omega) (by omega), x2 5 (by omega), x2 6 (by omega), x2 7 (by omega), x3, m1 48 (by omega), m1 51 (by omega), m1 46 (by omega), m2, m3 43 (by omega), m3 44 (by omega), m3 45 (by omega), m3 50 (by omega)]
        refine ⟨⟨t0, t1, t2, t3, t4, rfl, ?_⟩, fun _ => ⟨rfl, rfl, rfl⟩, fun q => absurd rfl q, t9, u1, u2, ⟨by decide, by decide⟩, by decide, by decide⟩
        rw [t6]
        by_cases q : ι 51 i = 0
        · rw [if_pos q, (t7 q).1]
        · rw [if_neg q, (t8 q).1]
      · rw [e _ _ (by omega), e _ _ (by omega), e _ _ (by omega)]; exact h6 i g4 g5
    · intro p hp
      obtain ⟨u1, u2, ⟨w, u3, u4⟩, y, u5, u6, u7⟩ := a7 p hp
      have m62 : mClose z nh 62 p = nI (yr + 1 - y) := by
        rw [mc_get, if_neg (by decide), if_pos rfl, if_pos hp, zm 62 (by omega) (by omega), u7, ← nI_succ]
        congr 1
        omega
      unfold iB1
      rw [e 11 p (by omega), e 12 p (by omega), e 13 p (by omega), e 59 p (by omega), e 60 p (by omega), e 61 p (by omega), m62]
      refine ⟨fun d hd => ?_, u2, ⟨w, u3, by omega⟩, y, by omega, u6, rfl⟩
      rw [e 52 _ (by omega)]
      exact u1 d hd
