/-! calls of both: rain, houses -/
theorem rs_eq {c v w : Int32} (h : c = 0 → v = w) : rs c v = rs c w := by
  unfold rs; split
  · rename_i hc; exact h hc
  · rfl
theorem rsF_eq {c v w : Int32} (h : c = 0 → v = w) : rsF c v = rsF c w := by
  unfold rsF; split
  · rename_i hc; exact h hc
  · rfl
theorem cRain_0 {w v : Int32} (h : cRain w v = 0) : w.toNatClampNeg < 52 ∧ -1 ≤ v ∧ v ≤ 9 := by
  unfold cRain at h
  split at h
  · rename_i hw; exact ⟨(gIn_of 52 hw rfl).2, wr0 h⟩
  · exact absurd h (by decide)
theorem cWeek_0 {w : Int32} (h : cWeek w = 0) : w.toNatClampNeg < 52 := by
  unfold cWeek at h
  split at h
  · rename_i hw; exact (gIn_of 52 hw rfl).2
  · exact absurd h (by decide)
theorem sMost_congr {f g : Nat → Int32} {b : Nat} (h : ∀ k, k < 52 → f k = g k) (hb : b + 13 ≤ 52) : sMost f b = sMost g b := by
  unfold sMost
  exact fo_congr _ _ _ (fun k a h1 h2 => by rw [h k (by omega)])
theorem sCounts_congr {f g : Nat → Int32} {w : Nat} (h : ∀ k, k < 52 → f k = g k) (hw : w < 52) : sCounts f w = sCounts g w := by
  unfold sCounts
  rw [sMost_congr h (by omega), h w hw]
theorem sWet_congr {f g : Nat → Int32} {w : Nat} (h : ∀ k, k < 52 → f k = g k) (hw : w < 52) : sWet f w = sWet g w := by
  unfold sWet
  rw [sCounts_congr h hw]

theorem o_rain {k : Nat} {ι : gIm} {ρ : gRm} {Λ : gLm} {yr wk nh nr nb ns np ch : Nat} (h : Inv8 k ι ρ Λ yr wk nh nr nb ns np ch) (w v : Int32) : Both k 3 3 0 0 jX11_rain jX12_rain [vI w, vI v] ι ρ Λ := by
  obtain ⟨a1, a2, a3, a4, a5, a6, a7, a8, a9, b1, b2, b3, b4⟩ := id h
  have q1 : nh ≤ 24 := a4.2.2.1
  have q2 : nr ≤ 200 := a5.2.2.1
  have q3 : nb ≤ 40 := a8.2.2.1
  have q4 : ns ≤ 12 := a9.2.2.1
  have q5 : np ≤ 30 := b1.2.2.1
  obtain ⟨s1, s2, s3, s4, s5, s6, s7⟩ := id a3
  refine both_of (M := fun z => up2 z 42 w.toNatClampNeg v) (ρ' := ρ) (Λ' := Λ) h (fun K => by rw [sel_same, sel_same]; exact x_rain K w v ι ρ Λ a1) (fun _ d g1 g2 => up2_ne _ _ _ (by omega)) (fun K z ρ1 Λ1 hF hz => ?_) (fun hc => ?_)
  · have m := m_rain K w v z ρ1 Λ1 hF
    rw [hz 42 (by omega) (by omega), ← rsF_eq (fun hc => (s7 _ (cRain_0 hc).1).1)] at m
    exact m
  · obtain ⟨g1, g2, g3⟩ := cRain_0 hc
    have e : ∀ d i, ¬ d = 3 → ¬ d = 42 → up2 (up2 ι 3 w.toNatClampNeg v) 42 w.toNatClampNeg v d i = ι d i := by
      intro d i q1 q2
      rw [up2_ne _ _ _ q2, up2_ne _ _ _ q1]
    have e9 : ∀ d i, ¬ (d = 3 ∨ d = 42) → up2 (up2 ι 3 w.toNatClampNeg v) 42 w.toNatClampNeg v d i = ι d i := fun d i q => e d i (by omega) (by omega)
    refine ⟨_, _, _, _, _, _, _, _, ⟨a1, iR_fr a2 (fun d i g => e9 d i (by unfold dR at g; omega)), ?_, iH_fr a4 (fun d i g => e9 d i (by unfold dH at g; omega)) (fun _ _ => rfl), iN_fr a5 (fun d i g => e9 d i (by unfold dN at g; omega)) (fun _ _ => ⟨rfl, rfl⟩) (fun _ _ => ⟨rfl, rfl⟩), iL_fr a6 (fun d i g => e9 d i (by unfold dL at g; omega)), iB_fr a7 (fun d i g => e9 d i (by unfold dB at g; omega)) (fun _ _ => rfl), iK_fr a8 (fun d i g => e9 d i (by unfold dK at g; omega)) (fun _ _ => ⟨rfl, rfl⟩), iW_fr a9 (fun d i g => e9 d i (by unfold dW at g; omega)), iP_fr b1 (fun d i g => e9 d i (by unfold dP at g; omega)), iQ_fr b2 (fun d i g => e9 d i (by unfold dQ at g; omega)), b3, by omega⟩⟩
    refine ⟨?_, ?_, s3, ?_, ?_, s6, fun j hj => ?_⟩
    · rw [e9 _ _ (by omega)]; exact s1
    · rw [e9 _ _ (by omega)]; exact s2
    · rw [e9 _ _ (by omega)]; exact s4
    · rw [e9 _ _ (by omega)]; exact s5
    · have := s7 j hj
      simp only [up2_get]
      grind

theorem o_rainOf {k : Nat} {ι : gIm} {ρ : gRm} {Λ : gLm} {yr wk nh nr nb ns np ch : Nat} (h : Inv8 k ι ρ Λ yr wk nh nr nb ns np ch) (w : Int32) : Both k 3 3 0 0 jX11_rainOf jX12_rainOf [vI w] ι ρ Λ := by
  obtain ⟨a1, a2, a3, a4, a5, a6, a7, a8, a9, b1, b2, b3, b4⟩ := id h
  have q1 : nh ≤ 24 := a4.2.2.1
  have q2 : nr ≤ 200 := a5.2.2.1
  have q3 : nb ≤ 40 := a8.2.2.1
  have q4 : ns ≤ 12 := a9.2.2.1
  have q5 : np ≤ 30 := b1.2.2.1
  obtain ⟨s1, s2, s3, s4, s5, s6, s7⟩ := id a3
  refine both_ask h (fun K => x_rainOf K w ι ρ Λ a1 (fun j hj => (s7 j hj).2.1)) (fun K z ρ1 Λ1 hF hz => ?_)
  have m := m_rainOf K w z ρ1 Λ1 hF
  rw [hz 42 (by omega) (by omega), ← rs_eq (fun hc => sCounts_congr (fun j hj => (s7 j hj).1) (cWeek_0 hc))] at m
  exact m
