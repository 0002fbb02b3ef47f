/-! calls of both: the bridge -/
theorem B_rng {ι : gIm} {ρ : gRm} {yr wk nr : Nat} (h : iB ι ρ yr wk nr) (hn : nr ≤ 200) : ∀ p, p < 6 → ∀ d, ρ 10 p = some d → 200 ≤ d ∧ d < 400 := fun p hp d hd => by
  have := (h p hp).1 d hd
  omega
theorem B_case {ι : gIm} {ρ : gRm} {yr wk nr p : Nat} (h : iB ι ρ yr wk nr) (hp : p < 6) : (spo ρ p = none ∧ ι 59 p = -9) ∨ ∃ r, r < nr ∧ spo ρ p = some r ∧ ρ 10 p = some (200 + r) ∧ ι 59 p = nI r ∧ ι 52 r = 2 := by
  obtain ⟨g1, ⟨g2, -⟩, -⟩ := h p hp
  rcases e : ρ 10 p with _ | d
  · have es : spo ρ p = none := by unfold spo; rw [e]; rfl
    rw [es] at g2
    exact Or.inl ⟨es, g2.symm⟩
  · obtain ⟨q1, q2, q3⟩ := g1 d e
    have es : spo ρ p = some (d - 200) := by unfold spo; rw [e]; rfl
    rw [es] at g2
    exact Or.inr ⟨d - 200, by omega, es, by rw [show 200 + (d - 200) = d by omega], g2.symm, q3⟩
theorem B_hg {ι : gIm} {ρ : gRm} {yr wk nr : Nat} (h : iB ι ρ yr wk nr) (hn : nr ≤ 200) : ∀ p, p < 6 → ¬ ι 59 p < 0 → gIn (ι 59 p) 200 := by
  intro p hp h0
  rcases B_case h hp with ⟨-, e⟩ | ⟨r, hr, -, -, e, -⟩
  · rw [e] at h0; exact absurd (by decide) h0
  · rw [e]; exact gIn_nI (by omega) (by omega)
theorem st_eq {ι : gIm} {ρ : gRm} {Λ : gLm} {yr wk wb nr p : Nat} (h : iB ι ρ yr wb nr) (hS : iS ι yr wk) (hN : iN ι ρ Λ nr) (hp : p < 6) (m : Int32) : sStX ι (spo ρ) (ι 2 0) m p = sStg ι m p := by
  obtain ⟨-, ⟨-, g2, g3⟩, -, y, g5, g6, g7⟩ := h p hp
  have n3 := hN.2.2.1
  unfold sStX sStg
  rcases B_case h hp with ⟨es, e⟩ | ⟨r, hr, es, -, e, -⟩
  · rw [es, e, if_pos (by decide)]
  · rw [es, e, if_neg (nI_pos (by omega)), nI_cl1 (by omega)]
    show vStg (ι (200 + r) 2) (ι 12 p) (ι 2 0 - ι 13 p) m = _
    rw [(hN.2.2.2.1 r hr).2.2.1.2.2.1, g3, g6, g7, hS.1, nI_sub g5]
theorem sn_iff {ι : gIm} {ρ : gRm} {yr wk nr p : Nat} (h : iB ι ρ yr wk nr) (hn : nr ≤ 200) (hp : p < 6) : spo ρ p = none ↔ ι 59 p < 0 := by
  rcases B_case h hp with ⟨es, e⟩ | ⟨r, hr, es, -, e, -⟩
  · rw [es, e]; exact ⟨fun _ => by decide, fun _ => rfl⟩
  · rw [es, e]; exact ⟨fun q => (by cases q), fun q => absurd q (nI_pos (by omega))⟩
theorem vBear_congr {s t s' t' : Nat → Int32} (h : ∀ p, p < 4 → s p = s' p ∧ t p = t' p) : vBear s t = vBear s' t' := by
  unfold vBear
  rw [(h 0 (by omega)).1, (h 1 (by omega)).1, (h 2 (by omega)).1, (h 3 (by omega)).1, (h 0 (by omega)).2, (h 1 (by omega)).2, (h 2 (by omega)).2, (h 3 (by omega)).2]
theorem be_eq {ι : gIm} {ρ : gRm} {Λ : gLm} {yr wk nr : Nat} (h : iB ι ρ yr wk nr) (hS : iS ι yr wk) (hN : iN ι ρ Λ nr) (m : Int32) : sBeX ι (spo ρ) (ι 2 0) m = sBear ι m := by
  have hn := hN.2.2.1
  unfold sBeX sBear
  rw [vBear_congr (s' := sStg ι m) (t' := ι 60) (fun p hp => ⟨st_eq h hS hN (by omega) m, (h p (by omega)).2.1.2.1⟩)]
  have i0 := sn_iff h hn (p := 0) (by omega)
  have i1 := sn_iff h hn (p := 1) (by omega)
  have i2 := sn_iff h hn (p := 2) (by omega)
  have i3 := sn_iff h hn (p := 3) (by omega)
  by_cases q : ι 59 0 < 0 ∨ ι 59 1 < 0 ∨ ι 59 2 < 0 ∨ ι 59 3 < 0
  · rw [if_pos q, if_pos]
    rcases q with q | q | q | q
    · exact Or.inl (i0.mpr q)
    · exact Or.inr (Or.inl (i1.mpr q))
    · exact Or.inr (Or.inr (Or.inl (i2.mpr q)))
    · exact Or.inr (Or.inr (Or.inr (i3.mpr q)))
  · rw [if_neg q, if_neg]
    intro q2
    apply q
    rcases q2 with q | q | q | q
    · exact Or.inl (i0.mp q)
    · exact Or.inr (Or.inl (i1.mp q))
    · exact Or.inr (Or.inr (Or.inl (i2.mp q)))
    · exact Or.inr (Or.inr (Or.inr (i3.mp q)))
theorem let_eq {ι : gIm} {ρ : gRm} {Λ : gLm} {yr wk nr : Nat} (h : iB ι ρ yr wk nr) (hS : iS ι yr wk) (hN : iN ι ρ Λ nr) (v m : Int32) : sLetX ι (spo ρ) (ι 2 0) v m = sLet ι v m := by
  unfold sLetX sLet
  rw [be_eq h hS hN, st_eq h hS hN (by omega), st_eq h hS hN (by omega)]
theorem nI_negL {k : Nat} (h0 : 0 < k) (h : k < 2 ^ 31) : -(nI k) < 0 := by
  rw [Int32.lt_iff_toInt_lt, Int32.toInt_neg, nI_toInt h, Int32.toInt_zero]
  simp only [Int.bmod_def]
  split <;> omega
theorem imax_sub {a b c m : Nat} (ha : a ≤ m) (hm : m < 2 ^ 31) (hb : b + c < 2 ^ 31) : imax 0 (nI a - nI b - nI c) ≤ nI m := by
  have e : nI a - nI b - nI c = nI a - nI (b + c) := by rw [← nI_add]; grind
  rw [e]
  unfold imax
  by_cases h : b + c ≤ a
  · rw [nI_sub h]
    split
    · exact nI_le (by omega) (by omega)
    · exact nI_pos' (by omega)
  · have e2 : nI a - nI (b + c) = -(nI (b + c - a)) := by
      rw [← nI_sub (by omega : a ≤ b + c)]
      grind
    rw [e2, if_neg (fun q => Int32.lt_irrefl (Int32.lt_trans q (nI_negL (by omega) (by omega))))]
    exact nI_pos' (by omega)
theorem st_le {ι : gIm} {ρ : gRm} {yr wk nr p mm : Nat} (h : iB ι ρ yr wk nr) (hS : iS ι yr wk) (hL : iL ι nr) (hn : nr ≤ 200) (hp : p < 6) (hm : mm ≤ 936) : sStg ι (nI mm) p ≤ 2430 := by
  obtain ⟨-, ⟨-, g2, g3⟩, ⟨w, g8, g9⟩, y, g5, g6, g7⟩ := h p hp
  have hy := hS.2.2.1
  have hw := hS.2.2.2.2.2.1
  unfold sStg
  rcases B_case h hp with ⟨es, e⟩ | ⟨r, hr, es, -, e, e2⟩
  · rw [e, if_pos (by decide)]; decide
  · rw [e, if_neg (nI_pos (by omega)), nI_cl1 (by omega), ← g3, g8, g7]
    have hs : 1 ≤ ι 53 r ∧ ι 53 r ≤ 81 := by
      rcases hL r hr with g | g | g
      · rw [e2] at g; exact absurd g.1 (by decide)
      · rw [e2] at g; exact absurd g.1 (by decide)
      · exact ⟨g.2.1, g.2.2.1⟩
    obtain ⟨s, s1, s2⟩ := nI_of2 (x := ι 53 r) (M := 81) (n := 81) rfl (by grind) hs.2
    rw [s2]
    unfold vStg
    have hww : w ≤ 60000 := by
      have : 52 * yr + wk ≤ 3200 := by omega
      omega
    rw [nI_add, show (10 : Int32) = nI 10 from rfl, show (3 : Int32) = nI 3 from rfl, show (40 : Int32) = nI 40 from rfl, pk_mul, pk_mul, pk_div (by omega) (by omega) (by omega)]
    exact imax_sub (m := 2430) (by omega) (by omega) (by omega)
theorem sStg_z {ι z : gIm} (hz : ∀ d, 40 ≤ d → d < 77 → z d = ι d) : sStg z = sStg ι := by
  funext m p
  unfold sStg
  rw [hz 59 (by omega) (by omega), hz 53 (by omega) (by omega), hz 61 (by omega) (by omega), hz 62 (by omega) (by omega)]
theorem sBear_z {ι z : gIm} (hz : ∀ d, 40 ≤ d → d < 77 → z d = ι d) : sBear z = sBear ι := by
  funext m
  unfold sBear
  rw [sStg_z hz, hz 59 (by omega) (by omega), hz 60 (by omega) (by omega)]
theorem sLet_z {ι z : gIm} (hz : ∀ d, 40 ≤ d → d < 77 → z d = ι d) : sLet z = sLet ι := by
  funext v m
  unfold sLet
  rw [sBear_z hz, sStg_z hz]
theorem cPl_0 {p : Int32} (h : cPl p = 0) : p.toNatClampNeg < 6 := by
  unfold cPl at h
  split at h
  · rename_i hw; exact (gIn_of 6 hw rfl).2
  · exact absurd h (by decide)
theorem o_strength {k : Nat} {ι : gIm} {ρ : gRm} {Λ : gLm} {yr wk nh nr nb ns np ch : Nat} (h : Inv8 k ι ρ Λ yr wk nh nr nb ns np ch) (p : Int32) : Both k 4 3 0 0 jX11_strength jX12_strength [vI p] ι ρ Λ := by
  obtain ⟨a1, a2, a3, a4, a5, a6, a7, a8, a9, b1, b2, b3, b4⟩ := id h
  have q1 : nh ≤ 24 := a4.2.2.1
  have q2 : nr ≤ 200 := a5.2.2.1
  have q3 : nb ≤ 40 := a8.2.2.1
  have q4 : ns ≤ 12 := a9.2.2.1
  have q5 : np ≤ 30 := b1.2.2.1
  refine both_ask h (fun K => x_strength K p ι ρ Λ a1 (spo ρ) (spo_map (B_rng a7 q2)) (spo_lt (B_rng a7 q2))) (fun K z ρ1 Λ1 hF hz => ?_)
  have m := m_strength K p z ρ1 Λ1 hF (by rw [hz 59 (by omega) (by omega)]; exact B_hg a7 q2)
  rw [sStg_z hz] at m
  rw [rs_eq (fun hc => st_eq a7 a3 a5 (cPl_0 hc) 0)]
  exact m
theorem o_bears {k : Nat} {ι : gIm} {ρ : gRm} {Λ : gLm} {yr wk nh nr nb ns np ch : Nat} (h : Inv8 k ι ρ Λ yr wk nh nr nb ns np ch) : Both k 5 4 0 0 jX11_bears jX12_bears [] ι ρ Λ := by
  obtain ⟨a1, a2, a3, a4, a5, a6, a7, a8, a9, b1, b2, b3, b4⟩ := id h
  have q1 : nh ≤ 24 := a4.2.2.1
  have q2 : nr ≤ 200 := a5.2.2.1
  have q3 : nb ≤ 40 := a8.2.2.1
  have q4 : ns ≤ 12 := a9.2.2.1
  have q5 : np ≤ 30 := b1.2.2.1
  refine both_see h (fun K => x_bears K ι ρ Λ a1 (spo ρ) (spo_map (B_rng a7 q2)) (spo_lt (B_rng a7 q2)) (fun p hp => by rw [st_eq a7 a3 a5 (by omega)]; exact st_le (mm := 0) a7 a3 a6 q2 (by omega) (by omega))) (fun K => ?_)
  rw [be_eq a7 a3 a5]
  exact m_bears K ι ρ Λ a1 (B_hg a7 q2)
theorem o_load {k : Nat} {ι : gIm} {ρ : gRm} {Λ : gLm} {yr wk nh nr nb ns np ch : Nat} (h : Inv8 k ι ρ Λ yr wk nh nr nb ns np ch) (v : Int32) : Both k 6 5 0 0 jX11_load jX12_load [vI v] ι ρ Λ := by
  obtain ⟨a1, a2, a3, a4, a5, a6, a7, a8, a9, b1, b2, b3, b4⟩ := id h
  have q1 : nh ≤ 24 := a4.2.2.1
  have q2 : nr ≤ 200 := a5.2.2.1
  have q3 : nb ≤ 40 := a8.2.2.1
  have q4 : ns ≤ 12 := a9.2.2.1
  have q5 : np ≤ 30 := b1.2.2.1
  refine both_ask h (fun K => x_load K v ι ρ Λ a1 (spo ρ) (spo_map (B_rng a7 q2)) (spo_lt (B_rng a7 q2)) (fun p hp => by rw [st_eq a7 a3 a5 (by omega)]; exact st_le (mm := 0) a7 a3 a6 q2 (by omega) (by omega))) (fun K z ρ1 Λ1 hF hz => ?_)
  have m := m_load K v z ρ1 Λ1 hF (by rw [hz 59 (by omega) (by omega)]; exact B_hg a7 q2)
  rw [sLet_z hz] at m
  rw [let_eq a7 a3 a5]
  exact m
theorem sTill_congr {f : Int32 → Int32} {wt wt' : Nat → Int32} {wk : Nat} (h : ∀ j, j < 52 → wt j = wt' j) : ∀ n k m, sTill f wt wk n k m = sTill f wt' wk n k m
  | 0, _, _ => rfl
  | n + 1, k, m => by
    rw [sTill, sTill]
    by_cases g : wk + k < 52
    · rw [h _ g, sTill_congr h n]
    · rw [if_neg g, if_neg g, sTill_congr h n]
theorem o_till {k : Nat} {ι : gIm} {ρ : gRm} {Λ : gLm} {yr wk nh nr nb ns np ch : Nat} (h : Inv8 k ι ρ Λ yr wk nh nr nb ns np ch) (v : Int32) : Both k 6 5 0 0 jX11_till jX12_till [vI v] ι ρ Λ := by
  obtain ⟨a1, a2, a3, a4, a5, a6, a7, a8, a9, b1, b2, b3, b4⟩ := id h
  have q1 : nh ≤ 24 := a4.2.2.1
  have q2 : nr ≤ 200 := a5.2.2.1
  have q3 : nb ≤ 40 := a8.2.2.1
  have q4 : ns ≤ 12 := a9.2.2.1
  have q5 : np ≤ 30 := b1.2.2.1
  obtain ⟨s1, s2, s3, s4, s5, s6, s7⟩ := id a3
  refine both_ask h (fun K => x_till K v ι ρ Λ a1 (spo ρ) (spo_map (B_rng a7 q2)) (spo_lt (B_rng a7 q2)) (fun j hj => (s7 j hj).2) (fun mm hm p hp => by rw [st_eq a7 a3 a5 (by omega)]; exact st_le a7 a3 a6 q2 (by omega) hm) wk s4 s6) (fun K z ρ1 Λ1 hF hz => ?_)
  have m := m_till K v z ρ1 Λ1 hF (by rw [hz 59 (by omega) (by omega)]; exact B_hg a7 q2) wk ((congrFun (hz 40 (by omega) (by omega)) 3).trans s5) s6
  rw [sLet_z hz, hz 42 (by omega) (by omega), ← sTill_congr (fun j hj => sWet_congr (fun j hj => (s7 j hj).1) hj)] at m
  rw [show sLetX ι (spo ρ) (ι 2 0) v = sLet ι v from funext (fun m => let_eq a7 a3 a5 v m)]
  exact m

theorem cTens_0 {p v hung : Int32} (h : cTens p v hung = 0) : p.toNatClampNeg < 6 := by
  unfold cTens at h
  split at h
  · rename_i hw; exact (gIn_of 6 hw rfl).2
  · exact absurd h (by decide)
theorem cCut_0 {p hung : Int32} (h : cCut p hung = 0) : p.toNatClampNeg < 6 ∧ ¬ hung < 0 := by
  unfold cCut at h
  split at h
  · rename_i hw
    split at h
    · exact absurd h (by decide)
    · rename_i h2
      exact ⟨(gIn_of 6 hw rfl).2, h2⟩
  · exact absurd h (by decide)
theorem ec_tens {ι : gIm} {ρ : gRm} {yr wk nr : Nat} (h : iB ι ρ yr wk nr) (p v : Int32) : cTens p v (ι 59 p.toNatClampNeg) = cTens p v (hgi (spo ρ p.toNatClampNeg)) := by
  unfold cTens
  by_cases g : 0 ≤ p ∧ p < 6
  · rw [if_pos g, if_pos g, (h _ (gIn_of 6 g rfl).2).2.1.1]
  · rw [if_neg g, if_neg g]
theorem ec_cut {ι : gIm} {ρ : gRm} {yr wk nr : Nat} (h : iB ι ρ yr wk nr) (p : Int32) : cCut p (ι 59 p.toNatClampNeg) = cCut p (hgi (spo ρ p.toNatClampNeg)) := by
  unfold cCut
  by_cases g : 0 ≤ p ∧ p < 6
  · rw [if_pos g, if_pos g, (h _ (gIn_of 6 g rfl).2).2.1.1]
  · rw [if_neg g, if_neg g]
theorem o_tension {k : Nat} {ι : gIm} {ρ : gRm} {Λ : gLm} {yr wk nh nr nb ns np ch : Nat} (h : Inv8 k ι ρ Λ yr wk nh nr nb ns np ch) (p v : Int32) : Both k 3 3 0 0 jX11_tension jX12_tension [vI p, vI v] ι ρ Λ := by
  obtain ⟨a1, a2, a3, a4, a5, a6, a7, a8, a9, b1, b2, b3, b4⟩ := id h
  have q1 : nh ≤ 24 := a4.2.2.1
  have q2 : nr ≤ 200 := a5.2.2.1
  have q3 : nb ≤ 40 := a8.2.2.1
  have q4 : ns ≤ 12 := a9.2.2.1
  have q5 : np ≤ 30 := b1.2.2.1
  refine both_of (M := fun z => up2 z 60 p.toNatClampNeg v) (ρ' := ρ) (Λ' := Λ) h (fun K => by rw [sel_same, sel_same]; exact x_tension K p v ι ρ Λ a1 (spo ρ) (spo_map (B_rng a7 q2)) (spo_lt (B_rng a7 q2))) (fun _ d g1 g2 => up2_ne _ _ _ (by omega)) (fun K z ρ1 Λ1 hF hz => ?_) (fun hc => ?_)
  · have m := m_tension K p v z ρ1 Λ1 hF
    rw [hz 59 (by omega) (by omega), hz 60 (by omega) (by omega), ec_tens a7] at m
    rw [rs_eq (fun hc => (a7 _ (cTens_0 hc)).2.1.2.1)]
    exact m
  · have hp := cTens_0 hc
    generalize p.toNatClampNeg = y at *
    have e : ∀ d j, ¬ ((d = 11 ∨ d = 60) ∧ j = y) → up2 (up2 ι 11 y v) 60 y v d j = ι d j := by
      intro d j q
      simp only [up2_get]
      rw [if_neg (by omega), if_neg (by omega)]
    refine ⟨_, _, _, _, _, _, _, _, ⟨a1, iR_fr a2 (fun d i g => e d i (by unfold dR at g; omega)), iS_fr a3 (fun d i g => e d i (by unfold dS at g; omega)), iH_fr a4 (fun d i g => e d i (by unfold dH at g; omega)) (fun _ _ => rfl), iN_fr a5 (fun d i g => e d i (by unfold dN at g; omega)) (fun _ _ => ⟨rfl, rfl⟩) (fun _ _ => ⟨rfl, rfl⟩), iL_fr a6 (fun d i g => e d i (by unfold dL at g; omega)), ?_, iK_fr a8 (fun d i g => e d i (by unfold dK at g; omega)) (fun _ _ => ⟨rfl, rfl⟩), iW_fr a9 (fun d i g => e d i (by unfold dW at g; omega)), iP_fr b1 (fun d i g => e d i (by unfold dP at g; omega)), iQ_fr b2 (fun d i g => e d i (by unfold dQ at g; omega)), b3, by omega⟩⟩
    intro p hp2
    by_cases q : p = y
    · subst q
      obtain ⟨g1, ⟨g2, g3, g4⟩, g5⟩ := a7 p hp2
      unfold iB1
      rw [e 12 _ (by omega), e 13 _ (by omega), e 59 _ (by omega), e 61 _ (by omega), e 62 _ (by omega)]
      refine ⟨fun d hd => ?_, ⟨g2, ?_, g4⟩, g5⟩
      · rw [e 52 _ (by omega)]; exact g1 d hd
      · simp only [up2_get]
        grind
    · exact iB1_fr (a7 p hp2) (fun d i g => e d i (by unfold dB1 at g; omega)) rfl
theorem o_cut {k : Nat} {ι : gIm} {ρ : gRm} {Λ : gLm} {yr wk nh nr nb ns np ch : Nat} (h : Inv8 k ι ρ Λ yr wk nh nr nb ns np ch) (p : Int32) : Both k 4 3 0 0 jX11_cut jX12_cut [vI p] ι ρ Λ := by
  obtain ⟨a1, a2, a3, a4, a5, a6, a7, a8, a9, b1, b2, b3, b4⟩ := id h
  have q1 : nh ≤ 24 := a4.2.2.1
  have q2 : nr ≤ 200 := a5.2.2.1
  have q3 : nb ≤ 40 := a8.2.2.1
  have q4 : ns ≤ 12 := a9.2.2.1
  have q5 : np ≤ 30 := b1.2.2.1
  obtain ⟨n1, n2, n3, n4, n5⟩ := id a5
  have hSn : ∀ p r, p < 6 → spo ρ p = some r → ι (200 + r) 0 = nI r := by
    intro p r hp hs
    rcases B_case a7 hp with ⟨es, e⟩ | ⟨r', hr, es, -, e, -⟩
    · rw [es] at hs; cases hs
    · rw [es] at hs
      have := Option.some.inj hs
      subst this
      exact (n4 _ hr).2.2.1.1
  refine both_of (M := fun z => mGone z p.toNatClampNeg) (Λ' := Λ) h (fun K => by rw [sel_same _ Λ]; exact x_cut K p ι ρ Λ a1 (spo ρ) (spo_map (B_rng a7 q2)) (spo_lt (B_rng a7 q2)) hSn) (fun _ d g1 g2 => ?_) (fun K z ρ1 Λ1 hF hz => ?_) (fun hc => ?_)
  · rcases spo ρ p.toNatClampNeg with _ | r
    · rfl
    · exact up2_ne _ _ _ (by omega)
  · have m := m_cut K p z ρ1 Λ1 hF (by rw [hz 59 (by omega) (by omega)]; exact B_hg a7 q2)
    rw [hz 59 (by omega) (by omega), ec_cut a7] at m
    rw [rs_eq (fun hc => (a7 _ (cCut_0 hc).1).2.1.1)]
    exact m
  · obtain ⟨hp, h0⟩ := cCut_0 hc
    generalize p.toNatClampNeg = y at *
    rcases B_case a7 hp with ⟨es, e⟩ | ⟨r, hr, es, ed, eh, ek⟩
    · rw [es] at h0; exact absurd (by decide) h0
    · rw [es]
      show ∃ yr wk nh nr nb ns np ch, Inv8 (k + 1) (mGone (up2 ι (200 + r) 8 (-9)) y) (up2 ρ 10 y none) Λ yr wk nh nr nb ns np ch
      have w : ∀ d j, mGone (up2 ι (200 + r) 8 (-9)) y d j = if d = 55 ∧ j = r then -9 else if d = 59 ∧ j = y then -9 else if d = 200 + r ∧ j = 8 then -9 else ι d j := by
        intro d j
        unfold mGone
        rw [show up2 ι (200 + r) 8 (-9) 59 = ι 59 from up2_ne _ _ _ (by omega), eh, nI_cl1 (by omega)]
        simp only [up2_get]
      generalize mGone (up2 ι (200 + r) 8 (-9)) y = z at *
      have e : ∀ d j, ¬ ((d = 55 ∧ j = r) ∨ (d = 59 ∧ j = y) ∨ (d = 200 + r ∧ j = 8)) → z d j = ι d j := by
        intro d j q
        rw [w, if_neg (by omega), if_neg (by omega), if_neg (by omega)]
      have er : ∀ d j, ¬ (d = 10 ∧ j = y) → up2 ρ 10 y none d j = ρ d j := by
        intro d j q
        rw [up2_get, if_neg q]
      refine ⟨_, _, _, _, _, _, _, _, ⟨gFix_up a1 (gst_arr (by decide)) rfl, iR_fr a2 (fun d i g => e d i (by unfold dR at g; omega)), iS_fr a3 (fun d i g => e d i (by unfold dS at g; omega)), iH_fr a4 (fun d i g => e d i (by unfold dH at g; omega)) (fun i g => er 5 i (by omega)), ?_, iL_fr a6 (fun d i g => e d i (by unfold dL at g; omega)), ?_, iK_fr a8 (fun d i g => e d i (by unfold dK at g; omega)) (fun i g => ⟨er 15 i (by omega), by funext j; exact er (800 + i) j (by omega)⟩), iW_fr a9 (fun d i g => e d i (by unfold dW at g; omega)), iP_fr b1 (fun d i g => e d i (by unfold dP at g; omega)), iQ_fr b2 (fun d i g => e d i (by unfold dQ at g; omega)), b3, by omega⟩⟩
      · refine ⟨?_, ?_, n3, fun s hs => ?_, fun s g1 g2 => ?_⟩
        · rw [e _ _ (by omega)]; exact n1
        · rw [e _ _ (by omega)]; exact n2
        · by_cases q : s = r
          · subst q
            obtain ⟨u1, u2, ⟨u3, u4, u5, u6, u7⟩, u8⟩ := n4 s hs
            unfold iN1
            rw [e (200 + s) 0 (by omega), e (200 + s) 1 (by omega), e (200 + s) 2 (by omega), e (200 + s) 3 (by omega), e (200 + s) 6 (by omega), e (200 + s) 7 (by omega), e 52 _ (by omega), e 53 _ (by omega), e 54 _ (by omega), e 58 _ (by omega), er 8 _ (by omega), er (200 + s) _ (by omega), er (200 + s) _ (by omega), w (200 + s) 8, if_neg (by omega), if_neg (by omega), if_pos ⟨rfl, rfl⟩, w 55 s, if_pos ⟨rfl, rfl⟩]
            exact ⟨u1, u2, ⟨u3, u4, u5, u6, rfl⟩, u8⟩
          · exact iN1_fr (n4 s hs) (fun d i g => e d i (by unfold dN1 at g; omega)) ⟨er 8 s (by omega), by funext i; exact er _ i (by omega)⟩ ⟨rfl, rfl⟩
        · rw [e _ _ (by omega)]; exact n5 s g1 g2
      · intro p hp2
        by_cases q : p = y
        · subst q
          obtain ⟨g1, ⟨g2, g3, g4⟩, g5⟩ := a7 p hp2
          have e10 : up2 ρ 10 p none 10 p = none := by rw [up2_get, if_pos ⟨rfl, rfl⟩]
          unfold iB1 spo
          rw [e10, e 11 _ (by omega), e 12 _ (by omega), e 13 _ (by omega), e 60 _ (by omega), e 61 _ (by omega), e 62 _ (by omega), w 59 p, if_neg (by omega), if_pos ⟨rfl, rfl⟩]
          exact ⟨fun d hd => (by cases hd), ⟨rfl, g3, g4⟩, g5⟩
        · exact iB1_fr (a7 p hp2) (fun d i g => e d i (by unfold dB1 at g; omega)) (er 10 p (by omega))

theorem cHang_0 {r p kind free hung : Int32} {n : Nat} (h : cHang r p (nI n) kind free hung = 0) (hn : n < 1000000) : r.toNatClampNeg < n ∧ p.toNatClampNeg < 6 ∧ kind = 2 ∧ hung < 0 ∧ r = nI r.toNatClampNeg := by
  unfold cHang at h
  split at h
  · rename_i hw
    split at h
    · rename_i h1
      split at h
      · rename_i h2
        exact ⟨nn_i hw.1 hn, (gIn_of 6 hw.2 rfl).2, h1, h2.2, (gIn_nn (m := n) hw.1 (Nat.le_refl _) hn).nI⟩
      · exact absurd h (by decide)
    · exact absurd h (by decide)
  · exact absurd h (by decide)
theorem ec_hang {ι : gIm} {ρ : gRm} {Λ : gLm} {yr wk nr : Nat} (h : iB ι ρ yr wk nr) (hS : iS ι yr wk) (hN : iN ι ρ Λ nr) (r p : Int32) : cHang r p (nI nr) (ι 52 r.toNatClampNeg) (sFree (ι 58 r.toNatClampNeg) (ι 54 r.toNatClampNeg) (ι 40 2)) (ι 59 p.toNatClampNeg) = cHang r p (nI nr) (ι (200 + r.toNatClampNeg) 1) (xFree (ι (200 + r.toNatClampNeg) 6) (ι (200 + r.toNatClampNeg) 7) (ι (200 + r.toNatClampNeg) 3) (ι 2 0)) (hgi (spo ρ p.toNatClampNeg)) := by
  have n3 := hN.2.2.1
  unfold cHang
  by_cases g : (0 ≤ r ∧ r < nI nr) ∧ 0 ≤ p ∧ p < 6
  · have hr := nn_i g.1 (by omega)
    rw [if_pos g, if_pos g, (h _ (gIn_of 6 g.2 rfl).2).2.1.1, kd_eq hN hr, free_eq (hN.2.2.2.1 _ hr) hS]
  · rw [if_neg g, if_neg g]
theorem o_hang {k : Nat} {ι : gIm} {ρ : gRm} {Λ : gLm} {yr wk nh nr nb ns np ch : Nat} (h : Inv8 k ι ρ Λ yr wk nh nr nb ns np ch) (r p : Int32) : Both k 3 3 0 0 jX11_hang jX12_hang [vI r, vI p] ι ρ Λ := by
  obtain ⟨a1, a2, a3, a4, a5, a6, a7, a8, a9, b1, b2, b3, b4⟩ := id h
  have q1 : nh ≤ 24 := a4.2.2.1
  have q2 : nr ≤ 200 := a5.2.2.1
  have q3 : nb ≤ 40 := a8.2.2.1
  have q4 : ns ≤ 12 := a9.2.2.1
  have q5 : np ≤ 30 := b1.2.2.1
  obtain ⟨s1, s2, s3, s4, s5, s6, s7⟩ := id a3
  obtain ⟨n1, n2, n3, n4, n5⟩ := id a5
  refine both_of (M := fun z => mHang z r p) (Λ' := Λ) h (fun K => by rw [sel_same _ Λ]; exact x_hang K r p ι ρ Λ a1 nr n1 n3 (fun r hr => (n4 r hr).1.1) (spo ρ) (spo_map (B_rng a7 q2)) (spo_lt (B_rng a7 q2))) (fun _ d g1 g2 => ?_) (fun K z ρ1 Λ1 hF hz => ?_) (fun hc => ?_)
  · unfold xHangI
    rw [up2_ne _ _ _ (by omega), up2_ne _ _ _ (by omega), up2_ne _ _ _ (by omega), up2_ne _ _ _ (by omega), up2_ne _ _ _ (by omega)]
  · have m := m_hang K r p z ρ1 Λ1 hF nr ((congrFun (hz 40 (by omega) (by omega)) 5).trans n2) n3
    rw [hz 59 (by omega) (by omega), hz 52 (by omega) (by omega), hz 58 (by omega) (by omega), hz 54 (by omega) (by omega), hz 40 (by omega) (by omega), ec_hang a7 a3 a5] at m
    exact m
  · obtain ⟨hr, hp, hk, hu, hrn⟩ := cHang_0 hc (by omega)
    clear hc
    rw [kd_eq a5 hr] at hk
    have w : ∀ d j, mHang (xHangI ι r.toNatClampNeg p.toNatClampNeg p (ι 2 0)) r p d j = if d = 62 ∧ j = p.toNatClampNeg then 0 else if d = 61 ∧ j = p.toNatClampNeg then 0 else if d = 60 ∧ j = p.toNatClampNeg then 50 else if d = 55 ∧ j = r.toNatClampNeg then p else if d = 59 ∧ j = p.toNatClampNeg then r else if d = 58 ∧ j = r.toNatClampNeg then 1 else
        if d = 200 + r.toNatClampNeg ∧ j = 8 then p else if d = 200 + r.toNatClampNeg ∧ j = 7 then 1 else if d = 13 ∧ j = p.toNatClampNeg then ι 2 0 else if d = 12 ∧ j = p.toNatClampNeg then 0 else if d = 11 ∧ j = p.toNatClampNeg then 50 else ι d j := by
      intro d j
      unfold mHang xHangI
      simp only [up2_get]
    generalize mHang (xHangI ι r.toNatClampNeg p.toNatClampNeg p (ι 2 0)) r p = z at *
    generalize r.toNatClampNeg = x at *
    generalize p.toNatClampNeg = y at *
    have e : ∀ d j, ¬ ((d = 200 + x ∧ (j = 7 ∨ j = 8)) ∨ ((d = 55 ∨ d = 58) ∧ j = x) ∨ (((11 ≤ d ∧ d ≤ 13) ∨ (59 ≤ d ∧ d ≤ 62)) ∧ j = y)) → z d j = ι d j := by
      intro d j q
      rw [w, if_neg (by omega), if_neg (by omega), if_neg (by omega), if_neg (by omega), if_neg (by omega), if_neg (by omega), if_neg (by omega), if_neg (by omega), if_neg (by omega), if_neg (by omega), if_neg (by omega)]
    have er : ∀ d j, ¬ (d = 10 ∧ j = y) → up2 ρ 10 y (some (200 + x)) d j = ρ d j := by
      intro d j q
      rw [up2_get, if_neg q]
    refine ⟨_, _, _, _, _, _, _, _, ⟨gFix_up a1 (gst_arr (by decide)) rfl, iR_fr a2 (fun d i g => e d i (by unfold dR at g; omega)), iS_fr a3 (fun d i g => e d i (by unfold dS at g; omega)), iH_fr a4 (fun d i g => e d i (by unfold dH at g; omega)) (fun i g => er 5 i (by omega)), ?_, iL_fr a6 (fun d i g => e d i (by unfold dL at g; omega)), ?_, iK_fr a8 (fun d i g => e d i (by unfold dK at g; omega)) (fun i g => ⟨er 15 i (by omega), by funext j; exact er (800 + i) j (by omega)⟩), iW_fr a9 (fun d i g => e d i (by unfold dW at g; omega)), iP_fr b1 (fun d i g => e d i (by unfold dP at g; omega)), iQ_fr b2 (fun d i g => e d i (by unfold dQ at g; omega)), b3, by omega⟩⟩
    · refine ⟨?_, ?_, n3, fun s hs => ?_, fun s g1 g2 => ?_⟩
      · rw [e _ _ (by omega)]; exact n1
      · rw [e _ _ (by omega)]; exact n2
      · by_cases q : s = x
        · subst q
          obtain ⟨u1, u2, ⟨u3, u4, u5, u6, u7⟩, u8⟩ := n4 s hs
          have v8 : z (200 + s) 8 = p := by rw [w, if_neg (by omega), if_neg (by omega), if_neg (by omega), if_neg (by omega), if_neg (by omega), if_neg (by omega), if_pos ⟨rfl, rfl⟩]
          have v7 : z (200 + s) 7 = 1 := by rw [w, if_neg (by omega), if_neg (by omega), if_neg (by omega), if_neg (by omega), if_neg (by omega), if_neg (by omega), if_neg (by omega), if_pos ⟨rfl, rfl⟩]
          have v55 : z 55 s = p := by rw [w, if_neg (by omega), if_neg (by omega), if_neg (by omega), if_pos ⟨rfl, rfl⟩]
          have v58 : z 58 s = 1 := by rw [w, if_neg (by omega), if_neg (by omega), if_neg (by omega), if_neg (by omega), if_neg (by omega), if_pos ⟨rfl, rfl⟩]
          unfold iN1
          rw [e (200 + s) 0 (by omega), e (200 + s) 1 (by omega), e (200 + s) 2 (by omega), e (200 + s) 3 (by omega), e (200 + s) 6 (by omega), e 52 _ (by omega), e 53 _ (by omega), e 54 _ (by omega), er 8 _ (by omega), er (200 + s) _ (by omega), er (200 + s) _ (by omega), v7, v8, v55, v58]
          exact ⟨u1, u2, ⟨u3, u4, u5, u6, rfl⟩, fun g => absurd g (by decide), fun g => absurd g.2 (by decide)⟩
        · exact iN1_fr (n4 s hs) (fun d i g => e d i (by unfold dN1 at g; omega)) ⟨er 8 s (by omega), by funext i; exact er _ i (by omega)⟩ ⟨rfl, rfl⟩
      · rw [e _ _ (by omega)]; exact n5 s g1 g2
    · intro p' hp2
      by_cases q : p' = y
      · subst q
        have e10 : up2 ρ 10 p' (some (200 + x)) 10 p' = some (200 + x) := by rw [up2_get, if_pos ⟨rfl, rfl⟩]
        have v62 : z 62 p' = 0 := by rw [w, if_pos ⟨rfl, rfl⟩]
        have v61 : z 61 p' = 0 := by rw [w, if_neg (by omega), if_pos ⟨rfl, rfl⟩]
        have v60 : z 60 p' = 50 := by rw [w, if_neg (by omega), if_neg (by omega), if_pos ⟨rfl, rfl⟩]
        have v59 : z 59 p' = r := by rw [w, if_neg (by omega), if_neg (by omega), if_neg (by omega), if_neg (by omega), if_pos ⟨rfl, rfl⟩]
        have v13 : z 13 p' = ι 2 0 := by rw [w, if_neg (by omega), if_neg (by omega), if_neg (by omega), if_neg (by omega), if_neg (by omega), if_neg (by omega), if_neg (by omega), if_neg (by omega), if_pos ⟨rfl, rfl⟩]
        have v12 : z 12 p' = 0 := by rw [w, if_neg (by omega), if_neg (by omega), if_neg (by omega), if_neg (by omega), if_neg (by omega), if_neg (by omega), if_neg (by omega), if_neg (by omega), if_neg (by omega), if_pos ⟨rfl, rfl⟩]
        have v11 : z 11 p' = 50 := by rw [w, if_neg (by omega), if_neg (by omega), if_neg (by omega), if_neg (by omega), if_neg (by omega), if_neg (by omega), if_neg (by omega), if_neg (by omega), if_neg (by omega), if_neg (by omega), if_pos ⟨rfl, rfl⟩]
        unfold iB1 spo
        rw [e10, v62, v61, v60, v59, v13, v12, v11]
        refine ⟨fun d hd => ?_, ⟨?_, rfl, rfl⟩, ⟨0, rfl, by omega⟩, yr, Nat.le_refl _, s1, ?_⟩
        · have := Option.some.inj hd
          subst this
          rw [show 200 + x - 200 = x by omega, e 52 _ (by omega)]
          exact ⟨by omega, by omega, hk⟩
        · show nI (200 + x - 200) = r
          rw [show 200 + x - 200 = x by omega]; exact hrn.symm
        · rw [Nat.sub_self]; rfl
      · exact iB1_fr (a7 p' hp2) (fun d i g => e d i (by unfold dB1 at g; omega)) (er 10 p' (by omega))
