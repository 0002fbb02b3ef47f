/-! calls of both: step, clear, count, person, alive -/
theorem xor_neg {x : Int32} : (x ^^^ 100 < 0) ↔ x < 0 := by
  rw [Int32.lt_iff_toInt_lt, Int32.lt_iff_toInt_lt, Int32.toInt_zero, ← Int32.toInt_toBitVec, ← Int32.toInt_toBitVec, Int32.toBitVec_xor]
  have h1 := BitVec.msb_eq_toInt (x := x.toBitVec ^^^ (100 : Int32).toBitVec)
  have h2 := BitVec.msb_eq_toInt (x := x.toBitVec)
  have h3 : (x.toBitVec ^^^ (100 : Int32).toBitVec).msb = x.toBitVec.msb := by
    rw [BitVec.msb_xor, show ((100 : Int32).toBitVec).msb = false from by decide]
    simp
  rw [h1, h2] at h3
  simpa using h3
theorem fd_eq (x : Int32) : (0 ≤ sFd x 100 ∧ sFd x 100 < 6 ↔ 0 ≤ x ∧ x < 600) ∧ (0 ≤ x → sFd x 100 = x / 100) := by
  have hd : (x / 100).toInt = x.toInt.tdiv 100 := Int32.toInt_div_of_ne_right x 100 (by decide)
  have b1 := Int32.le_toInt x
  have b2 := Int32.toInt_lt x
  unfold sFd
  by_cases h : x < 0
  · have hx := Int32.lt_iff_toInt_lt.mp h
    rw [Int32.toInt_zero] at hx
    rw [if_pos (xor_neg.mpr h)]
    have hneg : (if x / 100 * 100 = x then x / 100 else x / 100 - 1) < 0 := by
      have h9 := Int.neg_tdiv (a := x.toInt) (b := 100)
      rw [Int.tdiv_eq_ediv_of_nonneg (by omega)] at h9
      have hq : x.toInt.tdiv 100 ≤ 0 := by omega
      have hq2 : -21474837 ≤ x.toInt.tdiv 100 := by omega
      split
      · rename_i hm
        rw [Int32.lt_iff_toInt_lt, Int32.toInt_zero]
        rcases Int.lt_or_eq_of_le hq with g | g
        · omega
        · exfalso
          have hz : x / 100 = 0 := Int32.toInt_inj.mp (by rw [hd, g]; rfl)
          rw [hz] at hm
          have : (0 : Int32) * 100 = 0 := by decide
          rw [this] at hm
          rw [← hm] at h
          exact absurd h (by decide)
      · rw [Int32.lt_iff_toInt_lt, Int32.toInt_zero, Int32.toInt_sub, hd, show Int32.toInt 1 = 1 from rfl]
        simp only [Int.bmod_def]
        split <;> omega
    have hnn : ¬ 0 ≤ x := fun g => by
      rw [Int32.le_iff_toInt_le, Int32.toInt_zero] at g
      omega
    constructor
    · constructor
      · intro g; exact absurd (Int32.lt_of_le_of_lt g.1 hneg) (Int32.lt_irrefl)
      · intro g; exact absurd g.1 hnn
    · intro g; exact absurd g hnn
  · rw [if_neg (fun g => h (xor_neg.mp g))]
    have hx : 0 ≤ x.toInt := by
      rw [Int32.lt_iff_toInt_lt, Int32.toInt_zero] at h
      omega
    refine ⟨?_, fun _ => rfl⟩
    rw [Int32.le_iff_toInt_le, Int32.lt_iff_toInt_lt, Int32.le_iff_toInt_le, Int32.lt_iff_toInt_lt, hd, Int32.toInt_zero, show Int32.toInt 6 = 6 from rfl, show Int32.toInt 600 = 600 from rfl, Int.tdiv_eq_ediv_of_nonneg hx]
    omega
theorem xPl_eq (kind x : Int32) : (0 ≤ xPl kind x ∧ xPl kind x < 6) ↔ (if kind = 2 then 0 ≤ x ∧ x < 600 else 0 ≤ x ∧ x < 6) := by
  unfold xPl
  by_cases h : kind = 2
  · rw [if_pos h, if_pos h]; exact (fd_eq x).1
  · rw [if_neg h, if_neg h]
theorem ec_step (kind x d n a c : Int32) : cStepX kind x d n a c = cStep kind x d n a c := by
  unfold cStepX cStep
  by_cases h : 0 ≤ kind ∧ kind < 3
  · rw [if_pos h, if_pos h]
    have e := xPl_eq kind x
    by_cases g : (if kind = 2 then 0 ≤ x ∧ x < 600 else 0 ≤ x ∧ x < 6) ∧ 0 ≤ a ∧ a < 1 <<< (c &&& 31)
    · rw [if_pos g, if_pos ⟨e.mpr g.1, g.2⟩]
    · rw [if_neg g, if_neg (fun q => g ⟨e.mp q.1, q.2⟩)]
  · rw [if_neg h, if_neg h]
theorem cStep_0 {kind x d n a c : Int32} (h : cStep kind x d n a c = 0) : (0 ≤ kind ∧ kind < 3) ∧ (if kind = 2 then 0 ≤ x ∧ x < 600 else 0 ≤ x ∧ x < 6) ∧ (0 ≤ a ∧ a < 1 <<< (c &&& 31)) ∧ (1 ≤ d ∧ d ≤ 9) ∧ (1 ≤ n ∧ n ≤ 60) ∧ ¬ c = 12 := by
  unfold cStep at h
  by_cases h1 : 0 ≤ kind ∧ kind < 3
  · rw [if_pos h1] at h
    by_cases h2 : (if kind = 2 then 0 ≤ x ∧ x < 600 else 0 ≤ x ∧ x < 6) ∧ 0 ≤ a ∧ a < 1 <<< (c &&& 31)
    · rw [if_pos h2] at h
      by_cases h3 : d < 1 ∨ n < 1
      · rw [if_pos h3] at h; exact absurd h (by decide)
      · rw [if_neg h3] at h
        by_cases h4 : 9 < d ∨ 60 < n ∨ c = 12
        · rw [if_pos h4] at h; exact absurd h (by decide)
        · exact ⟨h1, h2.1, h2.2, ⟨Int32.not_lt.mp (fun q => h3 (Or.inl q)), Int32.not_lt.mp (fun q => h4 (Or.inl q))⟩, ⟨Int32.not_lt.mp (fun q => h3 (Or.inr q)), Int32.not_lt.mp (fun q => h4 (Or.inr (Or.inl q)))⟩, fun q => h4 (Or.inr (Or.inr q))⟩
    · rw [if_neg h2] at h; exact absurd h (by decide)
  · rw [if_neg h1] at h; exact absurd h (by decide)
theorem xPl_pl {kind x : Int32} (h : if kind = 2 then 0 ≤ x ∧ x < 600 else 0 ≤ x ∧ x < 6) : (if kind = 2 then x / 100 else x) = xPl kind x ∧ 0 ≤ xPl kind x ∧ xPl kind x < 6 := by
  refine ⟨?_, (xPl_eq kind x).mpr h⟩
  unfold xPl
  by_cases hk : kind = 2
  · rw [if_pos hk] at h
    rw [if_pos hk, if_pos hk]; exact ((fd_eq x).2 h.1).symm
  · rw [if_neg hk, if_neg hk]
theorem o_step {k : Nat} {ι : gIm} {ρ : gRm} {Λ : gLm} {yr wk nh nr nb ns np ch : Nat} (h : Inv8 k ι ρ Λ yr wk nh nr nb ns np ch) (hk : k < 1000) (kind x d n a : Int32) : Both k 3 2 0 0 jX11_step jX12_step [vI kind, vI x, vI d, vI n, vI a] ι ρ Λ := by
  obtain ⟨a1, a2, a3, a4, a5, a6, a7, a8, a9, b1, b2, b3, b4⟩ := id h
  have q1 : nh ≤ 24 := a4.2.2.1
  have q2 : nr ≤ 200 := a5.2.2.1
  have q3 : nb ≤ 40 := a8.2.2.1
  have q4 : ns ≤ 12 := a9.2.2.1
  have q5 : np ≤ 30 := b1.2.2.1
  obtain ⟨w1, w2, w3, w4, w5⟩ := id a9
  refine both_of (M := fun z => mStep z ns kind x d n a) (ρ' := ρ) (Λ' := Λ) h (fun K => by rw [sel_same, sel_same]; exact x_step K kind x d n a ι ρ Λ a1 ns w1 w3 (show nI ns ≤ nI 12 from nI_le w3 (by omega))) (fun _ d g1 g2 => ?_) (fun K z ρ1 Λ1 hF hz => ?_) (fun hc => ?_)
  · unfold xTell
    rw [up2_ne _ _ _ (by omega), up2_ne _ _ _ (by omega), up2_ne _ _ _ (by omega), up2_ne _ _ _ (by omega), up2_ne _ _ _ (by omega), up2_ne _ _ _ (by omega), up2_ne _ _ _ (by omega)]
  · have m := m_step K kind x d n a z ρ1 Λ1 hF ns ((congrFun (hz 40 (by omega) (by omega)) 8).trans w2) w3
    rw [← ec_step] at m
    exact m
  · rw [ec_step] at hc
    obtain ⟨c1, c2, c3, c4, c5, c6⟩ := cStep_0 hc
    obtain ⟨c7, c8⟩ := xPl_pl c2
    have hns : ns < 12 := by
      rcases Nat.lt_or_ge ns 12 with g | g
      · exact g
      · exact absurd (by rw [show ns = 12 by omega]; rfl) c6
    have w : ∀ c j, mStep (xTell ι ns kind (xPl kind x) d n a) ns kind x d n a c j = if c = 40 ∧ j = 8 then nI ns + 1 else if c = 70 ∧ j = ns then a else if c = 69 ∧ j = ns then n else if c = 68 ∧ j = ns then d else if c = 67 ∧ j = ns then xPl kind x else if c = 66 ∧ j = ns then kind else
        if c = 16 ∧ j = 5 then nI ns + 1 else if c = 16 ∧ j = 6 then nI ch + 1 else if c = 21 ∧ j = ns then a else if c = 20 ∧ j = ns then n else if c = 19 ∧ j = ns then d else if c = 18 ∧ j = ns then xPl kind x else if c = 17 ∧ j = ns then kind else ι c j := by
      intro c j
      unfold mStep xTell
      rw [c7, w4]
      simp only [up2_get]
    generalize mStep (xTell ι ns kind (xPl kind x) d n a) ns kind x d n a = z at *
    have e : ∀ c j, ¬ ((c = 40 ∧ j = 8) ∨ (66 ≤ c ∧ c ≤ 70 ∧ j = ns) ∨ (c = 16 ∧ (j = 5 ∨ j = 6)) ∨ (17 ≤ c ∧ c ≤ 21 ∧ j = ns)) → z c j = ι c j := by
      intro c j q
      rw [w, if_neg (by omega), if_neg (by omega), if_neg (by omega), if_neg (by omega), if_neg (by omega), if_neg (by omega), if_neg (by omega), if_neg (by omega), if_neg (by omega), if_neg (by omega), if_neg (by omega), if_neg (by omega), if_neg (by omega)]
    refine ⟨yr, wk, nh, nr, nb, ns + 1, np, ch + 1, a1, iR_fr a2 (fun d i g => e d i (by unfold dR at g; omega)), iS_fr a3 (fun d i g => e d i (by unfold dS at g; omega)), iH_fr a4 (fun d i g => e d i (by unfold dH at g; omega)) (fun _ _ => rfl), iN_fr a5 (fun d i g => e d i (by unfold dN at g; omega)) (fun _ _ => ⟨rfl, rfl⟩) (fun _ _ => ⟨rfl, rfl⟩), iL_fr a6 (fun d i g => e d i (by unfold dL at g; omega)), iB_fr a7 (fun d i g => e d i (by unfold dB at g; omega)) (fun _ _ => rfl), iK_fr a8 (fun d i g => e d i (by unfold dK at g; omega)) (fun _ _ => ⟨rfl, rfl⟩), ?_, iP_fr b1 (fun d i g => e d i (by unfold dP at g; omega)), iQ_ch b2 (by omega) (fun c j g => e c j (by omega)) ?_, b3, by omega⟩
    · refine ⟨?_, ?_, by omega, ?_, fun s hs => ?_⟩
      · rw [w, if_neg (by omega), if_neg (by omega), if_neg (by omega), if_neg (by omega), if_neg (by omega), if_neg (by omega), if_pos ⟨rfl, rfl⟩, nI_succ]
      · rw [w, if_pos ⟨rfl, rfl⟩, nI_succ]
      · rw [w, if_neg (by omega), if_neg (by omega), if_neg (by omega), if_neg (by omega), if_neg (by omega), if_neg (by omega), if_neg (by omega), if_pos ⟨rfl, rfl⟩, nI_succ]
      · by_cases q : s < ns
        · have g := w5 s q
          unfold iW1 pO aO at *
          rw [e 17 s (by omega), e 18 s (by omega), e 19 s (by omega), e 20 s (by omega), e 21 s (by omega), e 66 s (by omega), e 67 s (by omega), e 68 s (by omega), e 69 s (by omega), e 70 s (by omega)]
          exact g
        · have q2 : s = ns := by omega
          subst q2
          have v17 : z 17 s = kind := by rw [w, if_neg (by omega), if_neg (by omega), if_neg (by omega), if_neg (by omega), if_neg (by omega), if_neg (by omega), if_neg (by omega), if_neg (by omega), if_neg (by omega), if_neg (by omega), if_neg (by omega), if_neg (by omega), if_pos ⟨rfl, rfl⟩]
          have v18 : z 18 s = xPl kind x := by rw [w, if_neg (by omega), if_neg (by omega), if_neg (by omega), if_neg (by omega), if_neg (by omega), if_neg (by omega), if_neg (by omega), if_neg (by omega), if_neg (by omega), if_neg (by omega), if_neg (by omega), if_pos ⟨rfl, rfl⟩]
          have v19 : z 19 s = d := by rw [w, if_neg (by omega), if_neg (by omega), if_neg (by omega), if_neg (by omega), if_neg (by omega), if_neg (by omega), if_neg (by omega), if_neg (by omega), if_neg (by omega), if_neg (by omega), if_pos ⟨rfl, rfl⟩]
          have v20 : z 20 s = n := by rw [w, if_neg (by omega), if_neg (by omega), if_neg (by omega), if_neg (by omega), if_neg (by omega), if_neg (by omega), if_neg (by omega), if_neg (by omega), if_neg (by omega), if_pos ⟨rfl, rfl⟩]
          have v21 : z 21 s = a := by rw [w, if_neg (by omega), if_neg (by omega), if_neg (by omega), if_neg (by omega), if_neg (by omega), if_neg (by omega), if_neg (by omega), if_neg (by omega), if_pos ⟨rfl, rfl⟩]
          have v66 : z 66 s = kind := by rw [w, if_neg (by omega), if_neg (by omega), if_neg (by omega), if_neg (by omega), if_neg (by omega), if_pos ⟨rfl, rfl⟩]
          have v67 : z 67 s = xPl kind x := by rw [w, if_neg (by omega), if_neg (by omega), if_neg (by omega), if_neg (by omega), if_pos ⟨rfl, rfl⟩]
          have v68 : z 68 s = d := by rw [w, if_neg (by omega), if_neg (by omega), if_neg (by omega), if_pos ⟨rfl, rfl⟩]
          have v69 : z 69 s = n := by rw [w, if_neg (by omega), if_neg (by omega), if_pos ⟨rfl, rfl⟩]
          have v70 : z 70 s = a := by rw [w, if_neg (by omega), if_pos ⟨rfl, rfl⟩]
          obtain ⟨u, hu, hu2⟩ := i32_of (n := 6) c8 (by omega)
          rw [nI_shl s (by omega)] at c3
          have hp2 : 2 ^ s < 1000000 := Nat.lt_of_lt_of_le (Nat.pow_lt_pow_right (a := 2) (m := s) (n := 12) (by omega) hns) (by decide)
          obtain ⟨t, ht, ht2⟩ := i32_of (n := 2 ^ s) c3 hp2
          obtain ⟨kk, hk1, hk2⟩ := i32_of (n := 3) c1 (by omega)
          unfold iW1 pO aO
          rw [v17, v18, v19, v20, v21, v66, v67, v68, v69, v70, hu2, ht2, nI_cl1 (by omega), nI_cl1 (by omega)]
          refine ⟨⟨rfl, rfl, rfl, rfl, rfl⟩, ?_, ⟨rfl, hu⟩, ⟨rfl, ht⟩, c4, c5⟩
          rw [hk2]
          rcases (by omega : kk = 0 ∨ kk = 1 ∨ kk = 2) with q | q | q <;> subst q
          · exact Or.inl rfl
          · exact Or.inr (Or.inl rfl)
          · exact Or.inr (Or.inr rfl)
    · rw [w, if_neg (by omega), if_neg (by omega), if_neg (by omega), if_neg (by omega), if_neg (by omega), if_neg (by omega), if_neg (by omega), if_pos ⟨rfl, rfl⟩, nI_succ]
theorem o_clear {k : Nat} {ι : gIm} {ρ : gRm} {Λ : gLm} {yr wk nh nr nb ns np ch : Nat} (h : Inv8 k ι ρ Λ yr wk nh nr nb ns np ch) (hk : k < 1000) : Both k 2 1 0 0 jX11_clear jX12_clear [] ι ρ Λ := by
  obtain ⟨a1, a2, a3, a4, a5, a6, a7, a8, a9, b1, b2, b3, b4⟩ := id h
  have q1 : nh ≤ 24 := a4.2.2.1
  have q2 : nr ≤ 200 := a5.2.2.1
  have q3 : nb ≤ 40 := a8.2.2.1
  have q4 : ns ≤ 12 := a9.2.2.1
  have q5 : np ≤ 30 := b1.2.2.1
  obtain ⟨w1, w2, w3, w4, w5⟩ := id a9
  intro K
  have x := x_clear K ι ρ Λ a1 ns w1
  have m := m_clear K (up2 (up2 ι 16 5 0) 16 6 (ι 16 6 + 1)) ρ Λ a1
  rw [show up2 (up2 ι 16 5 0) 16 6 (ι 16 6 + 1) 40 8 = nI ns from by rw [up2_ne _ _ _ (by decide), up2_ne _ _ _ (by decide)]; exact w2] at m
  have w : ∀ c j, up2 (up2 (up2 ι 16 5 0) 16 6 (ι 16 6 + 1)) 40 8 0 c j = if c = 40 ∧ j = 8 then 0 else if c = 16 ∧ j = 6 then nI ch + 1 else if c = 16 ∧ j = 5 then 0 else ι c j := by
    intro c j
    rw [w4]
    simp only [up2_get]
  refine ⟨nI ns, _, _, _, _, x, m, ?_⟩
  generalize up2 (up2 (up2 ι 16 5 0) 16 6 (ι 16 6 + 1)) 40 8 0 = z at *
  have e : ∀ c j, ¬ ((c = 40 ∧ j = 8) ∨ (c = 16 ∧ (j = 5 ∨ j = 6))) → z c j = ι c j := by
    intro c j q
    rw [w, if_neg (by omega), if_neg (by omega), if_neg (by omega)]
  refine ⟨yr, wk, nh, nr, nb, 0, np, ch + 1, a1, iR_fr a2 (fun d i g => e d i (by unfold dR at g; omega)), iS_fr a3 (fun d i g => e d i (by unfold dS at g; omega)), iH_fr a4 (fun d i g => e d i (by unfold dH at g; omega)) (fun _ _ => rfl), iN_fr a5 (fun d i g => e d i (by unfold dN at g; omega)) (fun _ _ => ⟨rfl, rfl⟩) (fun _ _ => ⟨rfl, rfl⟩), iL_fr a6 (fun d i g => e d i (by unfold dL at g; omega)), iB_fr a7 (fun d i g => e d i (by unfold dB at g; omega)) (fun _ _ => rfl), iK_fr a8 (fun d i g => e d i (by unfold dK at g; omega)) (fun _ _ => ⟨rfl, rfl⟩), ?_, iP_fr b1 (fun d i g => e d i (by unfold dP at g; omega)), iQ_ch b2 (by omega) (fun c j g => e c j (by omega)) ?_, b3, by omega⟩
  · refine ⟨?_, ?_, by omega, ?_, fun s hs => absurd hs (by omega)⟩
    · rw [w, if_neg (by omega), if_neg (by omega), if_pos ⟨rfl, rfl⟩]; rfl
    · rw [w, if_pos ⟨rfl, rfl⟩]; rfl
    · rw [w, if_neg (by omega), if_pos ⟨rfl, rfl⟩, nI_succ]
  · rw [w, if_neg (by omega), if_pos ⟨rfl, rfl⟩, nI_succ]
theorem o_count {k : Nat} {ι : gIm} {ρ : gRm} {Λ : gLm} {yr wk nh nr nb ns np ch : Nat} (h : Inv8 k ι ρ Λ yr wk nh nr nb ns np ch) (what : Int32) : Both k 3 2 0 0 jX11_count jX12_count [vI what] ι ρ Λ := by
  obtain ⟨a1, a2, a3, a4, a5, a6, a7, a8, a9, b1, b2, b3, b4⟩ := id h
  have q1 : nh ≤ 24 := a4.2.2.1
  have q2 : nr ≤ 200 := a5.2.2.1
  have q3 : nb ≤ 40 := a8.2.2.1
  have q4 : ns ≤ 12 := a9.2.2.1
  have q5 : np ≤ 30 := b1.2.2.1
  obtain ⟨s1, s2, s3, s4, s5, s6, s7⟩ := id a3
  obtain ⟨h1, h2, h3, h4, h5, h6⟩ := id a4
  obtain ⟨n1, n2, n3, n4, n5⟩ := id a5
  obtain ⟨k1, k2, k3, k4⟩ := id a8
  obtain ⟨w1, w2, w3, w4, w5⟩ := id a9
  obtain ⟨p1, p2, p3, p4, p5⟩ := id b1
  refine both_see h (fun K => x_count K what ι ρ Λ a1 nh h1 h3 (fun i hi => (h5 i hi).1)) (fun K => ?_)
  have m := m_count K what ι ρ Λ a1 nh h2 h3
  rw [s1, s4, h1, n1, k1, w1, p1, show ι 1 = ι 41 from funext a2]
  rw [s2, s5, h2, n2, k2, w2, p2, iH_hands a4] at m
  exact m
theorem cPerson_0 {p b bp : Int32} {np : Nat} (h : cPerson p b (nI np) bp = 0) : (p = -1 ∨ (0 ≤ p ∧ p < nI np)) ∧ -60 ≤ b ∧ b ≤ 60 ∧ ¬ nI np = 30 ∧ ¬ (0 ≤ p ∧ b < bp) := by
  unfold cPerson at h
  split at h
  · rename_i h1
    split at h
    · exact absurd h (by decide)
    · rename_i h2
      split at h
      · exact absurd h (by decide)
      · rename_i h3
        split at h
        · exact absurd h (by decide)
        · rename_i h4
          exact ⟨h1, Int32.not_lt.mp h2, Int32.not_lt.mp (fun q => h3 (Or.inl q)), fun q => h3 (Or.inr q), h4⟩
  · exact absurd h (by decide)
theorem ec_person {ι : gIm} {np : Nat} (h : iP ι np) (p b : Int32) : cPerson p b (nI np) (ι 75 p.toNatClampNeg) = cPerson p b (nI np) (ι 33 p.toNatClampNeg) := by
  have h3 := h.2.2.1
  unfold cPerson
  by_cases g : p = -1 ∨ (0 ≤ p ∧ p < nI np)
  · rw [if_pos g, if_pos g]
    rcases g with g | g
    · subst g
      rw [if_neg (show ¬ ((0 : Int32) ≤ -1 ∧ b < ι 75 (Int32.toNatClampNeg (-1))) from fun q => absurd q.1 (by decide)), if_neg (show ¬ ((0 : Int32) ≤ -1 ∧ b < ι 33 (Int32.toNatClampNeg (-1))) from fun q => absurd q.1 (by decide))]
    · rw [(h.2.2.2.1 _ (nn_i g (by omega))).1.2.1]
  · rw [if_neg g, if_neg g]
theorem o_person {k : Nat} {ι : gIm} {ρ : gRm} {Λ : gLm} {yr wk nh nr nb ns np ch : Nat} (h : Inv8 k ι ρ Λ yr wk nh nr nb ns np ch) (p b : Int32) : Both k 3 2 0 0 jX11_person jX12_person [vI p, vI b] ι ρ Λ := by
  obtain ⟨a1, a2, a3, a4, a5, a6, a7, a8, a9, b1, b2, b3, b4⟩ := id h
  have q1 : nh ≤ 24 := a4.2.2.1
  have q2 : nr ≤ 200 := a5.2.2.1
  have q3 : nb ≤ 40 := a8.2.2.1
  have q4 : ns ≤ 12 := a9.2.2.1
  have q5 : np ≤ 30 := b1.2.2.1
  obtain ⟨p1, p2, p3, p4, p5⟩ := id b1
  refine both_of (M := fun z => mPerson z np p b) (ρ' := ρ) (Λ' := Λ) h (fun K => by rw [sel_same, sel_same]; exact x_person K p b ι ρ Λ a1 np p1 p3 (show nI np ≤ nI 30 from nI_le p3 (by omega))) (fun _ d g1 g2 => ?_) (fun K z ρ1 Λ1 hF hz => ?_) (fun hc => ?_)
  · unfold xAdd
    rw [up2_ne _ _ _ (by omega), up2_ne _ _ _ (by omega), up2_ne _ _ _ (by omega), up2_ne _ _ _ (by omega), up2_ne _ _ _ (by omega)]
  · have m := m_person K p b z ρ1 Λ1 hF np ((congrFun (hz 40 (by omega) (by omega)) 9).trans p2) p3
    rw [hz 75 (by omega) (by omega), ec_person b1] at m
    exact m
  · obtain ⟨c1, c2, c3, c4, c5⟩ := cPerson_0 hc
    have hnp : np < 30 := by
      rcases Nat.lt_or_ge np 30 with g | g
      · exact g
      · exact absurd (by rw [show np = 30 by omega]; rfl) c4
    have w : ∀ c j, mPerson (xAdd ι np p b) np p b c j = if c = 40 ∧ j = 9 then nI np + 1 else if c = 76 ∧ j = np then 1 else if c = 75 ∧ j = np then b else if c = 74 ∧ j = np then p else if c = 31 ∧ j = 4 then nI np + 1 else if c = 35 ∧ j = np then (if p = -1 then 0 else b + 60) * 30 + nI np else if c = 34 ∧ j = np then 1 else if c = 33 ∧ j = np then b else if c = 32 ∧ j = np then p else ι c j := by
      intro c j
      unfold mPerson xAdd
      simp only [up2_get]
    generalize mPerson (xAdd ι np p b) np p b = z at *
    have e : ∀ c j, ¬ ((c = 40 ∧ j = 9) ∨ (74 ≤ c ∧ c ≤ 76 ∧ j = np) ∨ (c = 31 ∧ j = 4) ∨ (32 ≤ c ∧ c ≤ 35 ∧ j = np)) → z c j = ι c j := by
      intro c j q
      rw [w, if_neg (by omega), if_neg (by omega), if_neg (by omega), if_neg (by omega), if_neg (by omega), if_neg (by omega), if_neg (by omega), if_neg (by omega), if_neg (by omega)]
    refine ⟨yr, wk, nh, nr, nb, ns, np + 1, ch, a1, iR_fr a2 (fun d i g => e d i (by unfold dR at g; omega)), iS_fr a3 (fun d i g => e d i (by unfold dS at g; omega)), iH_fr a4 (fun d i g => e d i (by unfold dH at g; omega)) (fun _ _ => rfl), iN_fr a5 (fun d i g => e d i (by unfold dN at g; omega)) (fun _ _ => ⟨rfl, rfl⟩) (fun _ _ => ⟨rfl, rfl⟩), iL_fr a6 (fun d i g => e d i (by unfold dL at g; omega)), iB_fr a7 (fun d i g => e d i (by unfold dB at g; omega)) (fun _ _ => rfl), iK_fr a8 (fun d i g => e d i (by unfold dK at g; omega)) (fun _ _ => ⟨rfl, rfl⟩), iW_fr a9 (fun d i g => e d i (by unfold dW at g; omega)), ?_, iQ_fr b2 (fun d i g => e d i (by unfold dQ at g; omega)), b3, by omega⟩
    refine ⟨?_, ?_, by omega, fun s hs => ?_, fun j => ?_⟩
    · rw [w, if_neg (by omega), if_neg (by omega), if_neg (by omega), if_neg (by omega), if_pos ⟨rfl, rfl⟩, nI_succ]
    · rw [w, if_pos ⟨rfl, rfl⟩, nI_succ]
    rotate_left
    · by_cases q : j = np
      · subst q
        rw [w 32, w 33, w 34, w 74, w 75, w 76]
        grind
      · rw [e 32 j (by omega), e 33 j (by omega), e 34 j (by omega), e 74 j (by omega), e 75 j (by omega), e 76 j (by omega)]; exact p5 j
    · by_cases q : s < np
      · obtain ⟨u1, u2, u3, u4, u5⟩ := p4 s q
        unfold iP1
        rw [e 32 s (by omega), e 33 s (by omega), e 34 s (by omega), e 35 s (by omega), e 74 s (by omega), e 75 s (by omega), e 76 s (by omega)]
        refine ⟨u1, u2, u3, u4, u5.imp id (fun ⟨t, t1, t2, t3⟩ => ⟨t, t1, t2, ?_⟩)⟩
        rw [e 33 t (by omega)]; exact t3
      · have q2 : s = np := by omega
        subst q2
        have v32 : z 32 s = p := by rw [w, if_neg (by omega), if_neg (by omega), if_neg (by omega), if_neg (by omega), if_neg (by omega), if_neg (by omega), if_neg (by omega), if_neg (by omega), if_pos ⟨rfl, rfl⟩]
        have v33 : z 33 s = b := by rw [w, if_neg (by omega), if_neg (by omega), if_neg (by omega), if_neg (by omega), if_neg (by omega), if_neg (by omega), if_neg (by omega), if_pos ⟨rfl, rfl⟩]
        have v34 : z 34 s = 1 := by rw [w, if_neg (by omega), if_neg (by omega), if_neg (by omega), if_neg (by omega), if_neg (by omega), if_neg (by omega), if_pos ⟨rfl, rfl⟩]
        have v35 : z 35 s = (if p = -1 then 0 else b + 60) * 30 + nI s := by rw [w, if_neg (by omega), if_neg (by omega), if_neg (by omega), if_neg (by omega), if_neg (by omega), if_pos ⟨rfl, rfl⟩]
        have v74 : z 74 s = p := by rw [w, if_neg (by omega), if_neg (by omega), if_neg (by omega), if_pos ⟨rfl, rfl⟩]
        have v75 : z 75 s = b := by rw [w, if_neg (by omega), if_neg (by omega), if_pos ⟨rfl, rfl⟩]
        have v76 : z 76 s = 1 := by rw [w, if_neg (by omega), if_pos ⟨rfl, rfl⟩]
        unfold iP1
        rw [v32, v33, v34, v35, v74, v75, v76]
        refine ⟨⟨rfl, rfl, rfl⟩, Or.inr rfl, ⟨c2, c3⟩, rfl, ?_⟩
        rcases c1 with g | g
        · exact Or.inl g
        · right
          obtain ⟨t, t1, t2⟩ := i32_of g (by omega)
          refine ⟨t, t1, t2, ?_⟩
          rw [e 33 t (by omega)]
          have : ¬ b < ι 33 p.toNatClampNeg := fun q => c5 ⟨g.1, q⟩
          rw [t2, nI_cl1 (by omega)] at this
          exact Int32.not_lt.mp this
theorem o_alive {k : Nat} {ι : gIm} {ρ : gRm} {Λ : gLm} {yr wk nh nr nb ns np ch : Nat} (h : Inv8 k ι ρ Λ yr wk nh nr nb ns np ch) (p on : Int32) (hon : on = 0 ∨ on = 1) : Both k 3 2 0 0 jX11_alive jX12_alive [vI p, vI on] ι ρ Λ := by
  obtain ⟨a1, a2, a3, a4, a5, a6, a7, a8, a9, b1, b2, b3, b4⟩ := id h
  have q1 : nh ≤ 24 := a4.2.2.1
  have q2 : nr ≤ 200 := a5.2.2.1
  have q3 : nb ≤ 40 := a8.2.2.1
  have q4 : ns ≤ 12 := a9.2.2.1
  have q5 : np ≤ 30 := b1.2.2.1
  obtain ⟨p1, p2, p3, p4, p5⟩ := id b1
  refine both_of (M := fun z => if ι 76 p.toNatClampNeg = on then z else up2 z 76 p.toNatClampNeg on) (ρ' := ρ) (Λ' := Λ) h (fun K => by rw [sel_same, sel_same]; exact x_alive K p on ι ρ Λ a1 np p1 p3 hon) (fun _ d g1 g2 => ?_) (fun K z ρ1 Λ1 hF hz => ?_) (fun hc => ?_)
  · split
    · rfl
    · exact up2_ne _ _ _ (by omega)
  · have m := m_alive K p on z ρ1 Λ1 hF np ((congrFun (hz 40 (by omega) (by omega)) 9).trans p2) p3 hon
    rw [hz 76 (by omega) (by omega)] at m
    rw [rs_eq (w := if ι 76 p.toNatClampNeg = on then 0 else 1) (fun hc => by rw [(p4 _ (cIs_0 hc (by omega))).1.2.2])]
    exact m
  · have hp := cIs_0 hc (by omega)
    have h34 := (p4 _ hp).1.2.2
    generalize p.toNatClampNeg = y at *
    rw [h34]
    by_cases g : ι 76 y = on
    · rw [if_pos g, if_pos g]
      exact ⟨_, _, _, _, _, _, _, _, Inv8_k h⟩
    · rw [if_neg g, if_neg g]
      have e : ∀ c j, ¬ ((c = 34 ∨ c = 76) ∧ j = y) → up2 (up2 ι 34 y on) 76 y on c j = ι c j := by
        intro c j q
        simp only [up2_get]
        rw [if_neg (by omega), if_neg (by omega)]
      refine ⟨yr, wk, nh, nr, nb, ns, np, ch, a1, iR_fr a2 (fun d i g => e d i (by unfold dR at g; omega)), iS_fr a3 (fun d i g => e d i (by unfold dS at g; omega)), iH_fr a4 (fun d i g => e d i (by unfold dH at g; omega)) (fun _ _ => rfl), iN_fr a5 (fun d i g => e d i (by unfold dN at g; omega)) (fun _ _ => ⟨rfl, rfl⟩) (fun _ _ => ⟨rfl, rfl⟩), iL_fr a6 (fun d i g => e d i (by unfold dL at g; omega)), iB_fr a7 (fun d i g => e d i (by unfold dB at g; omega)) (fun _ _ => rfl), iK_fr a8 (fun d i g => e d i (by unfold dK at g; omega)) (fun _ _ => ⟨rfl, rfl⟩), iW_fr a9 (fun d i g => e d i (by unfold dW at g; omega)), ?_, iQ_fr b2 (fun d i g => e d i (by unfold dQ at g; omega)), b3, by omega⟩
      refine ⟨?_, ?_, by omega, fun s hs => ?_, fun j => ?_⟩
      · rw [e _ _ (by omega)]; exact p1
      · rw [e _ _ (by omega)]; exact p2
      rotate_left
      · have := p5 j
        rw [e 32 j (by omega), e 33 j (by omega), e 74 j (by omega), e 75 j (by omega)]
        refine ⟨this.1, this.2.1, ?_⟩
        rw [up2_get, if_neg (by omega), up2_get, up2_get]
        by_cases q : j = y
        · rw [if_pos ⟨rfl, q⟩, if_pos ⟨rfl, q⟩]
        · rw [if_neg (fun g => q g.2), if_neg (fun g => q g.2), up2_ne _ _ _ (by decide)]; exact this.2.2
      · by_cases q : s = y
        · subst q
          obtain ⟨u1, u2, u3, u4, u5⟩ := p4 s hs
          have v34 : up2 (up2 ι 34 s on) 76 s on 34 s = on := by
            rw [up2_get, if_neg (by omega), up2_get, if_pos ⟨rfl, rfl⟩]
          have v76 : up2 (up2 ι 34 s on) 76 s on 76 s = on := by
            rw [up2_get, if_pos ⟨rfl, rfl⟩]
          unfold iP1
          rw [e 32 s (by omega), e 33 s (by omega), e 35 s (by omega), e 74 s (by omega), e 75 s (by omega), v34, v76]
          refine ⟨⟨u1.1, u1.2.1, rfl⟩, hon, u3, u4, u5.imp id (fun ⟨t, t1, t2, t3⟩ => ⟨t, t1, t2, ?_⟩)⟩
          rw [e 33 t (by omega)]; exact t3
        · obtain ⟨u1, u2, u3, u4, u5⟩ := p4 s hs
          unfold iP1
          rw [e 32 s (by omega), e 33 s (by omega), e 34 s (by omega), e 35 s (by omega), e 74 s (by omega), e 75 s (by omega), e 76 s (by omega)]
          refine ⟨u1, u2, u3, u4, u5.imp id (fun ⟨t, t1, t2, t3⟩ => ⟨t, t1, t2, ?_⟩)⟩
          rw [e 33 t (by omega)]; exact t3
