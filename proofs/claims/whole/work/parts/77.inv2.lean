/-! the two memories: the planner, all -/
/-- what the planner keeps is what the model finds -/
def agree (ι : gIm) (ns : Nat) : Prop := ∀ (z : gIm) (nh : Nat), (∀ s, s < ns → z 66 s = ι 17 s ∧ z 68 s = ι 19 s ∧ z 69 s = ι 20 s ∧ z 70 s = ι 21 s) → nI (upM z) = ι 22 12 → sHands (z 50) (z 44) nh = ι 22 13 → vDays ι = vDaysM (mPlans ns nh (pO ι) (aO ι) z) ∧ ∀ k, vStep ι k = vStepM (mPlans ns nh (pO ι) (aO ι) z) k (nI ns)
def iQ0 (ι : gIm) : Prop := (ι 24 0 = 0 ∧ ι 25 0 = 0 ∧ ι 29 0 = 0 ∧ ι 30 0 = 0) ∧ ∀ S, S < 256 → ι 27 S = nI (opR ι S) ∧ opR ι S < 256
def iQ (ι : gIm) (ns ch : Nat) : Prop := iQ0 ι ∧ (ι 22 14 = -1 ∨ ∃ c, c ≤ ch ∧ ι 22 14 = nI c) ∧ (ns ≤ 8 → ι 16 6 = ι 22 14 → agree ι ns)
def dQ (ns c k : Nat) : Prop := (c = 16 ∧ k = 6) ∨ c = 22 ∨ (24 ≤ c ∧ c ≤ 30) ∨ (17 ≤ c ∧ c ≤ 21)
theorem agree_fr {ι z : gIm} {ns : Nat} (h : agree ι ns) (e : ∀ c k, dQ ns c k → z c k = ι c k) : agree z ns := by
  intro y nh g2 g3 g4
  have e22 : z 22 = ι 22 := by funext k; exact e 22 k (by unfold dQ; omega)
  have e26 : z 26 = ι 26 := by funext k; exact e 26 k (by unfold dQ; omega)
  have e28 : z 28 = ι 28 := by funext k; exact e 28 k (by unfold dQ; omega)
  have e17 : ∀ c, 17 ≤ c → c ≤ 21 → z c = ι c := fun c a b => by funext k; exact e c k (by unfold dQ; omega)
  have ep : pO z = pO ι := by funext s; unfold pO; rw [e17 18 (by omega) (by omega)]
  have ea : aO z = aO ι := by funext s; unfold aO; rw [e17 21 (by omega) (by omega)]
  rw [e22] at g3 g4
  rw [e17 17 (by omega) (by omega), e17 19 (by omega) (by omega), e17 20 (by omega) (by omega), e17 21 (by omega) (by omega)] at g2
  have := h y nh g2 g3 g4
  rw [ep, ea]
  unfold vDays vStep at *
  rw [e22, e26, e28]
  exact this
theorem iQ0_fr {ι z : gIm} (h : iQ0 ι) (e : ∀ c k, (24 ≤ c ∧ c ≤ 30) → z c k = ι c k) : iQ0 z := by
  unfold iQ0 opR at *
  rw [e 24 _ (by omega), e 25 _ (by omega), e 29 _ (by omega), e 30 _ (by omega)]
  refine ⟨h.1, fun S hS => ?_⟩
  rw [e 27 _ (by omega)]
  exact h.2 S hS
theorem iQ_fr {ι z : gIm} {ns ch : Nat} (h : iQ ι ns ch) (e : ∀ c k, dQ ns c k → z c k = ι c k) : iQ z ns ch := by
  obtain ⟨h1, h2, h3⟩ := h
  refine ⟨iQ0_fr h1 (fun c k d => e c k (by unfold dQ; omega)), ?_, ?_⟩
  · rw [e 22 14 (by unfold dQ; omega)]; exact h2
  · rw [e 22 14 (by unfold dQ; omega), e 16 6 (by unfold dQ; omega)]
    intro g1 g2
    exact agree_fr (h3 g1 g2) e
/-- the steps have changed -/
theorem iQ_ch {ι z : gIm} {ns n2 ch : Nat} (h : iQ ι ns ch) (hch : ch < 1000) (e : ∀ c k, (c = 22 ∨ (24 ≤ c ∧ c ≤ 30)) → z c k = ι c k) (e2 : z 16 6 = nI (ch + 1)) : iQ z n2 (ch + 1) := by
  obtain ⟨h1, h2, h3⟩ := h
  refine ⟨iQ0_fr h1 (fun c k d => e c k (by omega)), ?_, ?_⟩
  · rw [e 22 14 (by omega)]; exact h2.imp id (fun ⟨c, a, b⟩ => ⟨c, by omega, b⟩)
  · rw [e 22 14 (by omega), e2]
    intro _ g2
    exfalso
    rcases h2 with h2 | ⟨c, a, b⟩
    · rw [h2] at g2
      exact nI_pos (show ch + 1 < 2 ^ 31 by omega) (by rw [g2]; decide)
    · rw [b] at g2
      have := congrArg Int32.toNatClampNeg g2
      rw [nI_cl1 (by omega), nI_cl1 (by omega)] at this
      omega
/-- all, behind k calls -/
def Inv8 (k : Nat) (ι : gIm) (ρ : gRm) (Λ : gLm) (yr wk nh nr nb ns np ch : Nat) : Prop := gFix ρ Λ ∧ iR ι ∧ iS ι yr wk ∧ iH ι ρ nh ∧ iN ι ρ Λ nr ∧ iL ι nr ∧ iB ι ρ yr wk nr ∧ iK ι ρ nr nb ∧ iW ι ns ch ∧ iP ι np ∧ iQ ι ns ch ∧ iF Λ nh nr nb ∧ ch ≤ k
def Inv (k : Nat) (ι : gIm) (ρ : gRm) (Λ : gLm) : Prop := ∃ yr wk nh nr nb ns np ch, Inv8 k ι ρ Λ yr wk nh nr nb ns np ch
theorem Inv8_rf {k : Nat} {ι : gIm} {ρ : gRm} {Λ : gLm} {yr wk nh nr nb ns np ch : Nat} (h : Inv8 k ι ρ Λ yr wk nh nr nb ns np ch) (c : Int32) : Inv8 (k + 1) (rf 41 (rf 1 ι c) c) ρ Λ yr wk nh nr nb ns np ch := by
  have e : ∀ d i, d ≠ 1 → d ≠ 41 → rf 41 (rf 1 ι c) c d i = ι d i := by
    intro d i h1 h2
    unfold rf
    rw [up2_ne _ _ _ h2, up2_ne _ _ _ h1]
  obtain ⟨a1, a2, a3, a4, a5, a6, a7, a8, a9, b1, b2, b3, b4⟩ := h
  refine ⟨a1, iR_rf a2 c, ?_, ?_, ?_, ?_, ?_, ?_, ?_, ?_, ?_, b3, by omega⟩
  · exact iS_fr a3 (fun d i h => e d i (by unfold dS at h; omega) (by unfold dS at h; omega))
  · exact iH_fr a4 (fun d i h => e d i (by unfold dH at h; have := a4.2.2.1; omega) (by unfold dH at h; omega)) (fun _ _ => rfl)
  · exact iN_fr a5 (fun d i h => e d i (by unfold dN at h; omega) (by unfold dN at h; omega)) (fun _ _ => ⟨rfl, rfl⟩) (fun _ _ => ⟨rfl, rfl⟩)
  · exact iL_fr a6 (fun d i h => e d i (by unfold dL at h; omega) (by unfold dL at h; omega))
  · exact iB_fr a7 (fun d i h => e d i (by unfold dB at h; omega) (by unfold dB at h; omega)) (fun _ _ => rfl)
  · exact iK_fr a8 (fun d i h => e d i (by unfold dK at h; omega) (by unfold dK at h; omega)) (fun _ _ => ⟨rfl, rfl⟩)
  · exact iW_fr a9 (fun d i h => e d i (by unfold dW at h; omega) (by unfold dW at h; omega))
  · exact iP_fr b1 (fun d i h => e d i (by unfold dP at h; omega) (by unfold dP at h; omega))
  · exact iQ_fr b2 (fun d i h => e d i (by unfold dQ at h; omega) (by unfold dQ at h; omega))
theorem sel_same {α : Type} (c : Int32) (a : α) : sel c a a = a := by unfold sel; split <;> rfl
/-- one call: both answer the same and the memories go on side by side -/
def Both (k dp dp' : Nat) (mc ms : Nat) (jX jM : gJ) (av : List gV) (ι : gIm) (ρ : gRm) (Λ : gLm) : Prop := ∀ K : gK, ∃ a ι1 ρ1 Λ1 ι2, gCe K dp mc ms jX (vR 0 :: av) ι ρ Λ (some (vI a)) ι1 ρ1 Λ1 ∧ gCe K dp' 0 0 jM (vR 40 :: av) ι1 ρ1 Λ1 (some (vI a)) ι2 ρ1 Λ1 ∧ Inv (k + 1) ι2 ρ1 Λ1
theorem both_of {k dp dp' mc ms : Nat} {jX jM : gJ} {av : List gV} {ι ι' : gIm} {ρ ρ' : gRm} {Λ Λ' : gLm} {yr wk nh nr nb ns np ch : Nat} {a c : Int32} {M : gIm → gIm} (h : Inv8 k ι ρ Λ yr wk nh nr nb ns np ch)
    (hx : ∀ K, gCe K dp mc ms jX (vR 0 :: av) ι ρ Λ (some (vI a)) (rsM c 1 ι ι') (sel c ρ' ρ) (sel c Λ' Λ))
    (hfr : c = 0 → ∀ d, 40 ≤ d → d < 77 → ι' d = ι d)
    (hm : ∀ K z ρ1 Λ1, gFix ρ1 Λ1 → (∀ d, 40 ≤ d → d < 77 → z d = ι d) → gCe K dp' 0 0 jM (vR 40 :: av) z ρ1 Λ1 (some (vI a)) (rsM c 41 z (M z)) ρ1 Λ1)
    (hI : c = 0 → ∃ yr wk nh nr nb ns np ch, Inv8 (k + 1) (M ι') ρ' Λ' yr wk nh nr nb ns np ch) : Both k dp dp' mc ms jX jM av ι ρ Λ := by
  intro K
  by_cases hc : c = 0
  · obtain ⟨y1, y2, y3, y4, y5, y6, y7, y8, hJ⟩ := hI hc
    have hx := hx K
    rw [rsM, if_pos hc, sel, if_pos hc, sel, if_pos hc] at hx
    have hm := hm K ι' ρ' Λ' hJ.1 (hfr hc)
    rw [rsM, if_pos hc] at hm
    exact ⟨a, ι', ρ', Λ', M ι', hx, hm, y1, y2, y3, y4, y5, y6, y7, y8, hJ⟩
  · have hx := hx K
    rw [rsM, if_neg hc, sel, if_neg hc, sel, if_neg hc] at hx
    have hm := hm K (rf 1 ι c) ρ Λ h.1 (fun d h1 h2 => by unfold rf; rw [up2_ne _ _ _ (by omega)])
    rw [rsM, if_neg hc] at hm
    exact ⟨a, rf 1 ι c, ρ, Λ, rf 41 (rf 1 ι c) c, hx, hm, yr, wk, nh, nr, nb, ns, np, ch, Inv8_rf h c⟩
theorem Inv8_k {k : Nat} {ι : gIm} {ρ : gRm} {Λ : gLm} {yr wk nh nr nb ns np ch : Nat} (h : Inv8 k ι ρ Λ yr wk nh nr nb ns np ch) : Inv8 (k + 1) ι ρ Λ yr wk nh nr nb ns np ch := by
  obtain ⟨a1, a2, a3, a4, a5, a6, a7, a8, a9, b1, b2, b3, b4⟩ := h
  exact ⟨a1, a2, a3, a4, a5, a6, a7, a8, a9, b1, b2, b3, by omega⟩
/-- a call that only asks, and may refuse -/
theorem both_ask {k dp dp' : Nat} {jX jM : gJ} {av : List gV} {ι : gIm} {ρ : gRm} {Λ : gLm} {yr wk nh nr nb ns np ch : Nat} {a c : Int32} (h : Inv8 k ι ρ Λ yr wk nh nr nb ns np ch)
    (hx : ∀ K, gCe K dp 0 0 jX (vR 0 :: av) ι ρ Λ (some (vI a)) (rsM c 1 ι ι) ρ Λ)
    (hm : ∀ K z ρ1 Λ1, gFix ρ1 Λ1 → (∀ d, 40 ≤ d → d < 77 → z d = ι d) → gCe K dp' 0 0 jM (vR 40 :: av) z ρ1 Λ1 (some (vI a)) (rsM c 41 z z) ρ1 Λ1) : Both k dp dp' 0 0 jX jM av ι ρ Λ :=
  both_of (M := fun z => z) (ρ' := ρ) (Λ' := Λ) h (fun K => by rw [sel_same, sel_same]; exact hx K) (fun _ _ _ _ => rfl) hm (fun _ => ⟨_, _, _, _, _, _, _, _, Inv8_k h⟩)
/-- a call that only asks, and never refuses -/
theorem both_see {k dp dp' : Nat} {jX jM : gJ} {av : List gV} {ι : gIm} {ρ : gRm} {Λ : gLm} {yr wk nh nr nb ns np ch : Nat} {a : Int32} (h : Inv8 k ι ρ Λ yr wk nh nr nb ns np ch)
    (hx : ∀ K, gCe K dp 0 0 jX (vR 0 :: av) ι ρ Λ (some (vI a)) ι ρ Λ) (hm : ∀ K, gCe K dp' 0 0 jM (vR 40 :: av) ι ρ Λ (some (vI a)) ι ρ Λ) : Both k dp dp' 0 0 jX jM av ι ρ Λ :=
  fun K => ⟨a, ι, ρ, Λ, ι, hx K, hm K, _, _, _, _, _, _, _, _, Inv8_k h⟩
