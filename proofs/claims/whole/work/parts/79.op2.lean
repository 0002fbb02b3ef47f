/-! calls of both: houses -/
theorem cIs_0 {h : Int32} {n : Nat} (hc : cIs h (nI n) = 0) (hn : n < 1000000) : h.toNatClampNeg < n := by
  unfold cIs at hc
  split at hc
  · rename_i hw; exact nn_i hw hn
  · exact absurd hc (by decide)
theorem cHouse_0 {v n c : Int32} (h : cHouse v n c = 0) : 1 ≤ n ∧ n ≤ 9 ∧ ¬ c = 24 := by unfold cHouse at h; grind
theorem cSet_0 {x what v : Int32} {n : Nat} (h : cSet x what v (nI n) = 0) (hn : n < 1000000) : x.toNatClampNeg < n ∧ ((what = 0 ∧ 1 ≤ v ∧ v ≤ 9) ∨ (what = 1 ∧ 1 ≤ v ∧ v ≤ 9) ∨ (what = 2 ∧ 0 ≤ v ∧ v ≤ 1)) := by
  unfold cSet at h
  split at h
  · rename_i hw
    refine ⟨nn_i hw hn, ?_⟩
    split at h
    · have := wr0 h; grind
    · exact absurd h (by decide)
  · exact absurd h (by decide)
theorem cBring_0 {x f d here used : Int32} {n : Nat} (h : cBring x f d (nI n) here used = 0) (hn : n < 1000000) : x.toNatClampNeg < n ∧ ¬ here = 0 ∧ ¬ 0 < used ∧ 0 ≤ f ∧ f ≤ 2000 ∧ 0 ≤ d ∧ d ≤ 20 := by
  unfold cBring at h
  split at h
  · rename_i hw
    refine ⟨nn_i hw hn, ?_⟩
    grind
  · exact absurd h (by decide)

theorem o_house {k : Nat} {ι : gIm} {ρ : gRm} {Λ : gLm} {yr wk nh nr nb ns np ch : Nat} (h : Inv8 k ι ρ Λ yr wk nh nr nb ns np ch) (v n : Int32) : Both k 4 2 1 9 jX11_house jX12_house [vI v, vI n] ι ρ Λ := by
  obtain ⟨a1, a2, a3, a4, a5, a6, a7, a8, a9, b1, b2, b3, b4⟩ := id h
  have q1 : nh ≤ 24 := a4.2.2.1
  have q2 : nr ≤ 200 := a5.2.2.1
  have q3 : nb ≤ 40 := a8.2.2.1
  have q4 : ns ≤ 12 := a9.2.2.1
  have q5 : np ≤ 30 := b1.2.2.1
  obtain ⟨h1, h2, h3, h4, h5, h6⟩ := id a4
  refine both_of (M := fun z => up2 (up2 (up2 (up2 (up2 z 43 nh v) 44 nh n) 45 nh 5) 50 nh 1) 40 4 (nI nh + 1)) h (fun K => x_house K v n ι ρ Λ a1 nh h1 h3 (b3.1 nh (Nat.le_refl _) h3) (show nI nh ≤ nI 24 from nI_le h3 (by omega))) (fun _ d g1 g2 => ?_) (fun K z ρ1 Λ1 hF hz => m_house K v n z ρ1 Λ1 hF nh ((congrFun (hz 40 (by omega) (by omega)) 4).trans h2) h3) (fun hc => ?_)
  · unfold xHouseI
    funext i
    simp only [up2_get, va_up2_get]
    grind
  · obtain ⟨g1, g2, g3⟩ := cHouse_0 hc
    have hnh : nh < 24 := house_lt g3 h3
    have e : ∀ d i, ¬ ((d = 4 ∧ i = 2) ∨ (d = 40 ∧ i = 4) ∨ d = 100 + nh ∨ (43 ≤ d ∧ d ≤ 50 ∧ i = nh)) → up2 (up2 (up2 (up2 (up2 (xHouseI ι nh v n) 43 nh v) 44 nh n) 45 nh 5) 50 nh 1) 40 4 (nI nh + 1) d i = ι d i := by
      intro d i q
      unfold xHouseI
      simp only [up2_get, va_up2_get]
      grind
    have er : ∀ d i, ¬ ((d = 5 ∧ i = nh) ∨ d = 100 + nh) → xHouseR ρ nh d i = ρ d i := by
      intro d i q
      unfold xHouseR
      simp only [up2_get, va_up2_get]
      grind
    have el : ∀ d, ¬ d = 100 + nh → (xHouseL Λ nh).2 d = Λ.2 d := fun d q => va_up_ne _ _ q
    have hfx : gFix (xHouseR ρ nh) (xHouseL Λ nh) := gFix_up (gFix_new (c := 100 + nh) (n := 0) a1 (by omega) rfl rfl) (gst_arr (by decide)) rfl
    refine ⟨yr, wk, nh + 1, nr, nb, ns, np, ch, hfx, iR_fr a2 (fun d i g => e d i (by unfold dR at g; omega)), iS_fr a3 (fun d i g => e d i (by unfold dS at g; omega)), ?_, iN_fr a5 (fun d i g => e d i (by unfold dN at g; omega)) (fun r g => ⟨er 8 r (by omega), by funext i; exact er (200 + r) i (by omega)⟩) (fun r g => ⟨el (400 + r) (by omega), el (600 + r) (by omega)⟩), iL_fr a6 (fun d i g => e d i (by unfold dL at g; omega)), iB_fr a7 (fun d i g => e d i (by unfold dB at g; omega)) (fun p g => er 10 p (by omega)), iK_fr a8 (fun d i g => e d i (by unfold dK at g; omega)) (fun i g => ⟨er 15 i (by omega), by funext j; exact er (800 + i) j (by omega)⟩), iW_fr a9 (fun d i g => e d i (by unfold dW at g; omega)), iP_fr b1 (fun d i g => e d i (by unfold dP at g; omega)), iQ_fr b2 (fun d i g => e d i (by unfold dQ at g; omega)), ?_, by omega⟩
    · refine ⟨?_, ?_, by omega, ?_, fun i hi => ⟨?_, ?_⟩, fun i g4 g5 => ?_⟩
      · unfold xHouseI; simp only [up2_get, va_up2_get]; have := nI_succ nh; grind
      · simp only [up2_get, va_up2_get]; have := nI_succ nh; grind
      · rw [e _ _ (by omega), e _ _ (by omega)]; exact h4
      · unfold xHouseR
        simp only [up2_get, va_up2_get]
        have := fun q => (h5 i q).1
        grind
      · by_cases hi2 : i < nh
        · exact iH1_fr (h5 i hi2).2 (fun c j d => e c j (by unfold dH1 at d; omega))
        · have hi3 : i = nh := by omega
          subst hi3
          obtain ⟨t1, t2, t3⟩ := h6 i (Nat.le_refl _) hnh
          unfold iH1 xHouseI
          simp only [up2_get, va_up2_get]
          grind
      · rw [e _ _ (by omega), e _ _ (by omega), e _ _ (by omega)]; exact h6 i (by omega) g5
    · obtain ⟨f1, f2, f3⟩ := b3
      have hl : (xHouseL Λ nh).1 = Λ.1 ++ [100 + nh] := rfl
      refine ⟨fun i g4 g5 hm => ?_, fun r g4 g5 => ⟨fun hm => ?_, fun hm => ?_, fun hm => ?_⟩, fun i g4 g5 hm => ?_⟩ <;> rw [hl] at hm <;> rcases List.mem_append.mp hm with hm | hm <;> first | (have := List.mem_singleton.mp hm; omega) | skip
      · exact f1 i (by omega) g5 hm
      · exact (f2 r g4 g5).1 hm
      · exact (f2 r g4 g5).2.1 hm
      · exact (f2 r g4 g5).2.2 hm
      · exact f3 i g4 g5 hm
