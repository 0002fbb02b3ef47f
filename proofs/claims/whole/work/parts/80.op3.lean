/-! calls of both: houses, II -/
theorem o_set {k : Nat} {ι : gIm} {ρ : gRm} {Λ : gLm} {yr wk nh nr nb ns np ch : Nat} (h : Inv8 k ι ρ Λ yr wk nh nr nb ns np ch) (x what v : Int32) : Both k 3 3 0 0 jX11_set jX12_set [vI x, vI what, vI v] ι ρ Λ := by
  obtain ⟨a1, a2, a3, a4, a5, a6, a7, a8, a9, b1, b2, b3, b4⟩ := id h
  have q1 : nh ≤ 24 := a4.2.2.1
  have q2 : nr ≤ 200 := a5.2.2.1
  have q3 : nb ≤ 40 := a8.2.2.1
  have q4 : ns ≤ 12 := a9.2.2.1
  have q5 : np ≤ 30 := b1.2.2.1
  obtain ⟨h1, h2, h3, h4, h5, h6⟩ := id a4
  refine both_of (M := fun z => if what = 0 then up2 z 44 x.toNatClampNeg v else if what = 1 then up2 z 45 x.toNatClampNeg v else up2 z 50 x.toNatClampNeg (if v = 1 then 1 else 0)) (ρ' := ρ) (Λ' := Λ) h (fun K => by rw [sel_same, sel_same]; exact x_set K x what v ι ρ Λ a1 nh h1 h3 (fun i hi => (h5 i hi).1)) (fun _ d g1 g2 => ?_) (fun K z ρ1 Λ1 hF hz => ?_) (fun hc => ?_)
  · unfold xBecome
    funext i
    split
    · rw [up2_ne _ _ _ (by omega)]
    · split <;> rw [up2_ne _ _ _ (by omega)]
  · have m := m_set K x what v z ρ1 Λ1 hF nh ((congrFun (hz 40 (by omega) (by omega)) 4).trans h2) h3
    rw [hz 44 (by omega) (by omega), hz 45 (by omega) (by omega), hz 50 (by omega) (by omega)] at m
    rw [rs_eq (w := (if what = 0 then ι 44 x.toNatClampNeg else if what = 1 then ι 45 x.toNatClampNeg else if ι 50 x.toNatClampNeg = 0 then 0 else 1)) (fun hc => ?_)]
    · exact m
    · obtain ⟨⟨t1, t2, t3, t4, t5, -⟩, -⟩ := (h5 _ (cSet_0 hc (by omega)).1).2
      unfold hr
      rw [t3, t4, t5]
  · obtain ⟨g1, g2⟩ := cSet_0 hc (by omega)
    generalize x.toNatClampNeg = y at *
    have e : ∀ d i, ¬ (d = 100 + y ∨ (43 ≤ d ∧ d ≤ 51 ∧ i = y)) → (if what = 0 then up2 (xBecome ι (100 + y) what v) 44 y v else if what = 1 then up2 (xBecome ι (100 + y) what v) 45 y v else up2 (xBecome ι (100 + y) what v) 50 y (if v = 1 then 1 else 0)) d i = ι d i := by
      intro d i q
      unfold xBecome
      split <;> (try split) <;> simp only [up2_get] <;> grind
    refine ⟨_, _, _, _, _, _, _, _, ⟨a1, iR_fr a2 (fun d i g => e d i (by unfold dR at g; omega)), iS_fr a3 (fun d i g => e d i (by unfold dS at g; omega)), ?_, iN_fr a5 (fun d i g => e d i (by unfold dN at g; omega)) (fun _ _ => ⟨rfl, rfl⟩) (fun _ _ => ⟨rfl, rfl⟩), iL_fr a6 (fun d i g => e d i (by unfold dL at g; omega)), iB_fr a7 (fun d i g => e d i (by unfold dB at g; omega)) (fun _ _ => rfl), iK_fr a8 (fun d i g => e d i (by unfold dK at g; omega)) (fun _ _ => ⟨rfl, rfl⟩), iW_fr a9 (fun d i g => e d i (by unfold dW at g; omega)), iP_fr b1 (fun d i g => e d i (by unfold dP at g; omega)), iQ_fr b2 (fun d i g => e d i (by unfold dQ at g; omega)), b3, by omega⟩⟩
    refine ⟨?_, ?_, h3, ?_, fun i hi => ⟨(h5 i hi).1, ?_⟩, fun i g4 g5 => ?_⟩
    · rw [e _ _ (by omega)]; exact h1
    · rw [e _ _ (by omega)]; exact h2
    · rw [e _ _ (by omega), e _ _ (by omega)]; exact h4
    · by_cases hi2 : i = y
      · subst hi2
        obtain ⟨t, u⟩ := h5 i hi
        unfold iH1 xBecome at *
        clear e a1 a2 a3 a4 a5 a6 a7 a8 a9 b1 b2 b3 h5 h6 h
        rcases g2 with ⟨g2, g3⟩ | ⟨g2, g3⟩ | ⟨g2, g3⟩ <;> subst g2
        · rw [if_pos rfl, if_pos rfl]; simp only [up2_get]; grind
        · rw [if_neg (by decide), if_pos rfl, if_neg (by decide), if_pos rfl]; simp only [up2_get]; grind
        · rw [if_neg (by decide), if_neg (by decide), if_neg (by decide), if_neg (by decide)]; simp only [up2_get]; grind
      · exact iH1_fr (h5 i hi).2 (fun c j d => e c j (by unfold dH1 at d; omega))
    · rw [e _ _ (by omega), e _ _ (by omega), e _ _ (by omega)]; exact h6 i g4 g5

theorem used0 {u : Int32} (h : 0 ≤ u) (h2 : ¬ 0 < u) : u = 0 := by grind
theorem o_bring {k : Nat} {ι : gIm} {ρ : gRm} {Λ : gLm} {yr wk nh nr nb ns np ch : Nat} (h : Inv8 k ι ρ Λ yr wk nh nr nb ns np ch) (x f d : Int32) : Both k 3 3 0 0 jX11_bring jX12_bring [vI x, vI f, vI d] ι ρ Λ := by
  obtain ⟨a1, a2, a3, a4, a5, a6, a7, a8, a9, b1, b2, b3, b4⟩ := id h
  have q1 : nh ≤ 24 := a4.2.2.1
  have q2 : nr ≤ 200 := a5.2.2.1
  have q3 : nb ≤ 40 := a8.2.2.1
  have q4 : ns ≤ 12 := a9.2.2.1
  have q5 : np ≤ 30 := b1.2.2.1
  obtain ⟨h1, h2, h3, h4, h5, h6⟩ := id a4
  refine both_of (M := fun z => up2 (up2 (up2 z 51 x.toNatClampNeg 1) 46 x.toNatClampNeg f) 47 x.toNatClampNeg d) (ρ' := ρ) (Λ' := Λ) h (fun K => by rw [sel_same, sel_same]; exact x_bring K x f d ι ρ Λ a1 nh h1 h3 (fun i hi => (h5 i hi).1)) (fun _ d g1 g2 => ?_) (fun K z ρ1 Λ1 hF hz => ?_) (fun hc => ?_)
  · rw [up2_ne _ _ _ (by omega), up2_ne _ _ _ (by omega)]
  · have m := m_bring K x f d z ρ1 Λ1 hF nh ((congrFun (hz 40 (by omega) (by omega)) 4).trans h2) h3
    rw [hz 50 (by omega) (by omega), hz 48 (by omega) (by omega)] at m
    have ec : cBring x f d (nI nh) (ι 50 x.toNatClampNeg) (ι 48 x.toNatClampNeg) = cBring x f d (nI nh) (hr ι 4 x.toNatClampNeg) (hr ι 7 x.toNatClampNeg) := by
      unfold cBring
      split
      · rename_i hw
        obtain ⟨⟨t1, t2, t3, t4, t5, t6, -⟩, -⟩ := (h5 _ (nn_i hw (by omega))).2
        unfold hr
        rw [t5, t6]
      · rfl
    rw [ec] at m
    rw [rs_eq (w := f / 10) (fun hc => ?_)]
    · exact m
    · obtain ⟨g1, g2, g3, -⟩ := cBring_0 hc (by omega)
      obtain ⟨-, -, -, -, -, -, -, t8, -⟩ := (h5 _ g1).2
      rw [used0 (u := hr ι 7 x.toNatClampNeg) t8 g3]
      grind
  · obtain ⟨g1, g2, g3, g4, g5, g6, g7⟩ := cBring_0 hc (by omega)
    generalize x.toNatClampNeg = y at *
    have e : ∀ c i, ¬ (c = 100 + y ∨ (43 ≤ c ∧ c ≤ 51 ∧ i = y)) → up2 (up2 (up2 (up2 (up2 ι (100 + y) 5 f) (100 + y) 6 d) 51 y 1) 46 y f) 47 y d c i = ι c i := by
      intro c i q
      simp only [up2_get]; grind
    refine ⟨_, _, _, _, _, _, _, _, ⟨a1, iR_fr a2 (fun d i g => e d i (by unfold dR at g; omega)), iS_fr a3 (fun d i g => e d i (by unfold dS at g; omega)), ?_, iN_fr a5 (fun d i g => e d i (by unfold dN at g; omega)) (fun _ _ => ⟨rfl, rfl⟩) (fun _ _ => ⟨rfl, rfl⟩), iL_fr a6 (fun d i g => e d i (by unfold dL at g; omega)), iB_fr a7 (fun d i g => e d i (by unfold dB at g; omega)) (fun _ _ => rfl), iK_fr a8 (fun d i g => e d i (by unfold dK at g; omega)) (fun _ _ => ⟨rfl, rfl⟩), iW_fr a9 (fun d i g => e d i (by unfold dW at g; omega)), iP_fr b1 (fun d i g => e d i (by unfold dP at g; omega)), iQ_fr b2 (fun d i g => e d i (by unfold dQ at g; omega)), b3, by omega⟩⟩
    refine ⟨?_, ?_, h3, ?_, fun i hi => ⟨(h5 i hi).1, ?_⟩, fun i g4 g5 => ?_⟩
    · rw [e _ _ (by omega)]; exact h1
    · rw [e _ _ (by omega)]; exact h2
    · rw [e _ _ (by omega), e _ _ (by omega)]; exact h4
    · by_cases hi2 : i = y
      · subst hi2
        obtain ⟨t, u⟩ := h5 i hi
        unfold hr at *
        unfold iH1 at *
        clear e a1 a2 a3 a4 a5 a6 a7 a8 a9 b1 b2 b3 h5 h6 h
        simp only [up2_get]; grind
      · exact iH1_fr (h5 i hi).2 (fun c j d => e c j (by unfold dH1 at d; omega))
    · rw [e _ _ (by omega), e _ _ (by omega), e _ _ (by omega)]; exact h6 i g4 g5
theorem o_ask {k : Nat} {ι : gIm} {ρ : gRm} {Λ : gLm} {yr wk nh nr nb ns np ch : Nat} (h : Inv8 k ι ρ Λ yr wk nh nr nb ns np ch) (f : Int32) : Both k 3 3 0 0 jX11_ask jX12_ask [vI f] ι ρ Λ := by
  obtain ⟨a1, a2, a3, a4, a5, a6, a7, a8, a9, b1, b2, b3, b4⟩ := id h
  have q1 : nh ≤ 24 := a4.2.2.1
  have q2 : nr ≤ 200 := a5.2.2.1
  have q3 : nb ≤ 40 := a8.2.2.1
  have q4 : ns ≤ 12 := a9.2.2.1
  have q5 : np ≤ 30 := b1.2.2.1
  obtain ⟨h1, h2, h3, h4, h5, h6⟩ := id a4
  refine both_of (M := fun z => up2 z 40 6 f) (ρ' := ρ) (Λ' := Λ) h (fun K => by rw [sel_same, sel_same]; exact x_ask K f ι ρ Λ a1) (fun _ d g1 g2 => ?_) (fun K z ρ1 Λ1 hF hz => ?_) (fun hc => ?_)
  · rw [up2_ne _ _ _ (by omega)]
  · have m := m_ask K f z ρ1 Λ1 hF
    rw [hz 40 (by omega) (by omega), ← h4] at m
    exact m
  · have e : ∀ c i, ¬ ((c = 4 ∧ i = 3) ∨ (c = 40 ∧ i = 6)) → up2 (up2 ι 4 3 f) 40 6 f c i = ι c i := by
      intro c i q
      simp only [up2_get]; grind
    refine ⟨_, _, _, _, _, _, _, _, ⟨a1, iR_fr a2 (fun d i g => e d i (by unfold dR at g; omega)), iS_fr a3 (fun d i g => e d i (by unfold dS at g; omega)), ?_, iN_fr a5 (fun d i g => e d i (by unfold dN at g; omega)) (fun _ _ => ⟨rfl, rfl⟩) (fun _ _ => ⟨rfl, rfl⟩), iL_fr a6 (fun d i g => e d i (by unfold dL at g; omega)), iB_fr a7 (fun d i g => e d i (by unfold dB at g; omega)) (fun _ _ => rfl), iK_fr a8 (fun d i g => e d i (by unfold dK at g; omega)) (fun _ _ => ⟨rfl, rfl⟩), iW_fr a9 (fun d i g => e d i (by unfold dW at g; omega)), iP_fr b1 (fun d i g => e d i (by unfold dP at g; omega)), iQ_fr b2 (fun d i g => e d i (by unfold dQ at g; omega)), b3, by omega⟩⟩
    refine ⟨?_, ?_, h3, ?_, fun i hi => ⟨(h5 i hi).1, iH1_fr (h5 i hi).2 (fun c j d => e c j (by unfold dH1 at d; omega))⟩, fun i g4 g5 => ?_⟩
    · rw [e _ _ (by omega)]; exact h1
    · rw [e _ _ (by omega)]; exact h2
    · simp only [up2_get]; grind
    · rw [e _ _ (by omega), e _ _ (by omega), e _ _ (by omega)]; exact h6 i g4 g5

theorem sFath_0 (what : Int32) : sFath what 0 0 = 0 := by unfold sFath imax; grind
theorem cBrought_0 {v what : Int32} (h : cBrought v what = 0) : v = -1 ∨ (0 ≤ v ∧ v < 4) := by unfold cBrought at h; grind
theorem o_brought {k : Nat} {ι : gIm} {ρ : gRm} {Λ : gLm} {yr wk nh nr nb ns np ch : Nat} (h : Inv8 k ι ρ Λ yr wk nh nr nb ns np ch) (v what : Int32) : Both k 4 3 0 0 jX11_brought jX12_brought [vI v, vI what] ι ρ Λ := by
  obtain ⟨a1, a2, a3, a4, a5, a6, a7, a8, a9, b1, b2, b3, b4⟩ := id h
  have q1 : nh ≤ 24 := a4.2.2.1
  have q2 : nr ≤ 200 := a5.2.2.1
  have q3 : nb ≤ 40 := a8.2.2.1
  have q4 : ns ≤ 12 := a9.2.2.1
  have q5 : np ≤ 30 := b1.2.2.1
  obtain ⟨h1, h2, h3, h4, h5, h6⟩ := id a4
  refine both_ask h (fun K => x_brought K v what ι ρ Λ a1 nh h1 h3 (fun i hi => (h5 i hi).1)) (fun K z ρ1 Λ1 hF hz => ?_)
  have m := m_brought K v what z ρ1 Λ1 hF nh ((congrFun (hz 40 (by omega) (by omega)) 4).trans h2) h3
  rw [hz 43 (by omega) (by omega), hz 51 (by omega) (by omega), hz 46 (by omega) (by omega), hz 47 (by omega) (by omega)] at m
  rw [rs_eq (w := sBrought (ι 43) (ι 51) (ι 46) (ι 47) nh v what) (fun hc => ?_)]
  · exact m
  · have hv := cBrought_0 hc
    unfold xBrought sBrought
    refine fo_congr _ _ _ (fun i a g1 g2 => ?_)
    obtain ⟨⟨-, t1, -⟩, t2, t3, -⟩ := (h5 i (by omega)).2
    unfold hr
    rw [t1]
    have e0 := sFath_0 what
    by_cases hh : ι 51 i = 0
    · obtain ⟨u1, u2, -⟩ := t2 hh
      rw [u1, u2, e0, if_pos (Or.inl hh)]
      split
      · exact Int32.add_zero a
      · rfl
    · obtain ⟨u1, u2⟩ := t3 hh
      rw [u1, u2]
      grind
theorem sHands_congr {f g f' g' : Nat → Int32} {n : Nat} (h : ∀ i, i < n → f i = f' i ∧ g i = g' i) : sHands f g n = sHands f' g' n := by
  unfold sHands
  exact fo_congr _ _ _ (fun i a h1 h2 => by rw [(h i (by omega)).1, (h i (by omega)).2])
theorem sShare_congr {f g o f' g' o' : Nat → Int32} {n x : Nat} {asked : Int32} (hx : x < n) (h : ∀ i, i < n → f i = f' i ∧ g i = g' i ∧ o i = o' i) : sShare f g o n asked x = sShare f' g' o' n asked x := by
  unfold sShare
  rw [sHands_congr (f := f) (g := g) (f' := f') (g' := g') (fun i hi => ⟨(h i hi).1, (h i hi).2.1⟩), (h x hx).1, (h x hx).2.1]
  have : sLeft f g o n asked (sHands f' g' n) x = sLeft f' g' o' n asked (sHands f' g' n) x := by
    unfold sLeft
    exact fo_congr _ _ _ (fun i a h1 h2 => by rw [(h i (by omega)).1, (h i (by omega)).2.1, (h i (by omega)).2.2, (h x hx).2.2])
  rw [this]
theorem sHands_is {f g : Nat → Int32} {n : Nat} (hn : n ≤ 24) (h : ∀ i, i < n → 1 ≤ g i ∧ g i ≤ 9) : ∃ m, m ≤ 9 * n ∧ sHands f g n = nI m ∧ ∀ i, i < n → f i ≠ 0 → 0 < m := by
  unfold sHands
  refine fo_inv (fun j a => ∃ m, m ≤ 9 * j ∧ a = nI m ∧ ∀ i, i < j → f i ≠ 0 → 0 < m) n (fun i a hi ha => ?_) n 0 0 (by omega) ⟨0, by omega, rfl, fun i hi => by omega⟩
  obtain ⟨m, g1, g2, g3⟩ := ha
  obtain ⟨u, hu, hg⟩ := nI_of (x := g i) (show ¬ g i < 0 by have := h i hi; grind)
  have g4 : 1 ≤ u ∧ u ≤ 9 := by
    have := h i hi
    rw [hg] at this
    constructor
    · exact (nI_leI (show 1 < 2 ^ 31 by omega) hu).mp this.1
    · exact (nI_leI hu (show 9 < 2 ^ 31 by omega)).mp this.2
  by_cases hf : f i = 0
  · rw [if_pos hf]
    refine ⟨m, by omega, by rw [g2]; exact Int32.add_zero _, fun j hj hj2 => ?_⟩
    by_cases hji : j = i
    · subst hji; exact absurd hf hj2
    · exact g3 j (by omega) hj2
  · rw [if_neg hf]
    exact ⟨m + u, by omega, by rw [g2, hg, nI_add], fun j hj hj2 => by omega⟩
theorem iH_hall {ι : gIm} {ρ : gRm} {nh : Nat} (h : iH ι ρ nh) : ∀ x, x < nh → hr ι 4 x ≠ 0 → 0 < sHands (hr ι 4) (hr ι 2) nh := by
  obtain ⟨h1, h2, h3, h4, h5, h6⟩ := h
  intro x hx hx2
  obtain ⟨m, g1, g2, g3⟩ := sHands_is (f := hr ι 4) (g := hr ι 2) h3 (fun i hi => (h5 i hi).2.2.2.2.1)
  rw [g2]
  have := g3 x hx hx2
  exact nI_lt (a := 0) this (by omega)
theorem iH_hands {ι : gIm} {ρ : gRm} {nh : Nat} (h : iH ι ρ nh) : sHands (ι 50) (ι 44) nh = sHands (hr ι 4) (hr ι 2) nh := by
  obtain ⟨h1, h2, h3, h4, h5, h6⟩ := h
  refine sHands_congr (fun i hi => ?_)
  obtain ⟨⟨t1, t2, t3, t4, t5, -⟩, -⟩ := (h5 i hi).2
  exact ⟨t5.symm, t3.symm⟩
theorem iH_share {ι : gIm} {ρ : gRm} {nh x : Nat} (h : iH ι ρ nh) (hx : x < nh) : sShare (hr ι 4) (hr ι 2) (hr ι 8) nh (ι 4 3) x = sShare (ι 50) (ι 44) (ι 49) nh (ι 40 6) x := by
  obtain ⟨h1, h2, h3, h4, h5, h6⟩ := h
  rw [h4]
  refine sShare_congr hx (fun i hi => ?_)
  obtain ⟨⟨t1, t2, t3, t4, t5, t6, t7⟩, -⟩ := (h5 i hi).2
  exact ⟨t5, t3, t7⟩
theorem iH_hallM {ι : gIm} {ρ : gRm} {nh : Nat} (h : iH ι ρ nh) : ∀ x, x < nh → ι 50 x ≠ 0 → ¬ sHands (ι 50) (ι 44) nh = 0 := by
  intro x hx hx2
  rw [iH_hands h]
  have g := iH_hall h x hx (by
    obtain ⟨h1, h2, h3, h4, h5, h6⟩ := h
    obtain ⟨⟨t1, t2, t3, t4, t5, -⟩, -⟩ := (h5 x hx).2
    show ι (100 + x) 4 ≠ 0
    rw [t5]; exact hx2)
  intro g2
  rw [g2] at g
  exact absurd g (by decide)
theorem o_share {k : Nat} {ι : gIm} {ρ : gRm} {Λ : gLm} {yr wk nh nr nb ns np ch : Nat} (h : Inv8 k ι ρ Λ yr wk nh nr nb ns np ch) (x : Int32) : Both k 3 3 0 0 jX11_share jX12_share [vI x] ι ρ Λ := by
  obtain ⟨a1, a2, a3, a4, a5, a6, a7, a8, a9, b1, b2, b3, b4⟩ := id h
  have q1 : nh ≤ 24 := a4.2.2.1
  have q2 : nr ≤ 200 := a5.2.2.1
  have q3 : nb ≤ 40 := a8.2.2.1
  have q4 : ns ≤ 12 := a9.2.2.1
  have q5 : np ≤ 30 := b1.2.2.1
  obtain ⟨h1, h2, h3, h4, h5, h6⟩ := id a4
  refine both_ask h (fun K => x_share K x ι ρ Λ a1 nh h1 h3 (fun i hi => (h5 i hi).1) (fun i hi => (h5 i hi).2.1.1) (iH_hall a4)) (fun K z ρ1 Λ1 hF hz => ?_)
  have m := m_share K x z ρ1 Λ1 hF nh ((congrFun (hz 40 (by omega) (by omega)) 4).trans h2) h3 (by rw [hz 44 (by omega) (by omega), hz 50 (by omega) (by omega)]; exact iH_hallM a4)
  rw [hz 50 (by omega) (by omega), hz 44 (by omega) (by omega), hz 49 (by omega) (by omega), hz 40 (by omega) (by omega)] at m
  rw [rs_eq (w := sShare (ι 50) (ι 44) (ι 49) nh (ι 40 6) x.toNatClampNeg) (fun hc => iH_share a4 (cIs_0 hc (by omega)))]
  exact m
theorem o_owed {k : Nat} {ι : gIm} {ρ : gRm} {Λ : gLm} {yr wk nh nr nb ns np ch : Nat} (h : Inv8 k ι ρ Λ yr wk nh nr nb ns np ch) (x : Int32) : Both k 3 3 0 0 jX11_owed jX12_owed [vI x] ι ρ Λ := by
  obtain ⟨a1, a2, a3, a4, a5, a6, a7, a8, a9, b1, b2, b3, b4⟩ := id h
  have q1 : nh ≤ 24 := a4.2.2.1
  have q2 : nr ≤ 200 := a5.2.2.1
  have q3 : nb ≤ 40 := a8.2.2.1
  have q4 : ns ≤ 12 := a9.2.2.1
  have q5 : np ≤ 30 := b1.2.2.1
  obtain ⟨h1, h2, h3, h4, h5, h6⟩ := id a4
  refine both_ask h (fun K => x_owed K x ι ρ Λ a1 nh h1 h3 (fun i hi => (h5 i hi).1)) (fun K z ρ1 Λ1 hF hz => ?_)
  have m := m_owed K x z ρ1 Λ1 hF nh ((congrFun (hz 40 (by omega) (by omega)) 4).trans h2) h3
  rw [hz 49 (by omega) (by omega)] at m
  rw [rsF_eq (v := hr ι 8 x.toNatClampNeg) (w := ι 49 x.toNatClampNeg) (fun hc => (h5 _ (cIs_0 hc (by omega))).2.1.2.2.2.2.2.2)]
  exact m
