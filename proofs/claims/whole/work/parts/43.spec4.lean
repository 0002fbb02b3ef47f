/-! the class: the passing of weeks -/
abbrev gMm : Type := gIm × gRm × gLm
def spo (ρ : gRm) (p : Nat) : Option Nat := (ρ 10 p).map (· - 200)
def nbo (ι : gIm) : Nat := (ι 14 1).toNatClampNeg
def xWk1 (p : Nat) (M : gMm) : gMm := if spo M.2.1 p ≠ none ∧ sStX M.1 (spo M.2.1) (M.1 2 0) 0 p = 0 then (xKeepI (up2 M.1 (200 + (spo M.2.1 p).getD 0) 8 (-9)) (nbo M.1) (M.1 2 0) (M.1 2 1), xKeepR (up2 M.2.1 10 p none) (nbo M.1) ((spo M.2.1 p).getD 0), xKeepL M.2.2 (nbo M.1)) else M
def xWkP (M : gMm) : gMm := fo xWk1 6 0 M
def xSk (M : gMm) : gMm := (xSoak M.1 (sWet (M.1 3) (M.1 2 1).toNatClampNeg) 6, M.2)
def xWk (M : gMm) : gMm := (up2 (xWkP (xSk M)).1 2 1 ((xWkP (xSk M)).1 2 1 + 1), (xWkP (xSk M)).2)
def xWks (n : Nat) (M : gMm) : gMm := fo (fun _ M => xWk M) n 0 M
/-- what the passing wants of the memory, and keeps -/
def okX (y : Int32) (wk : Nat) (r3 : Nat → Int32) (M : gMm) : Prop := gFix M.2.1 M.2.2 ∧ (M.1 2 0 = y ∧ M.1 2 1 = nI wk ∧ M.1 3 = r3) ∧ (∀ p, p < 6 → ∀ d, M.2.1 10 p = some d → 200 ≤ d ∧ d < 400) ∧ ∃ nb, nb ≤ 40 ∧ M.1 14 1 = nI nb ∧ ∀ i, nb ≤ i → i < 40 → 800 + i ∉ M.2.2.1
theorem spo_map {ρ : gRm} (h : ∀ p, p < 6 → ∀ d, ρ 10 p = some d → 200 ≤ d ∧ d < 400) : ∀ p, p < 6 → ρ 10 p = (spo ρ p).map (200 + ·) := by
  intro p hp
  unfold spo
  rcases e : ρ 10 p with _ | d
  · rfl
  · have := h p hp d e
    show some d = some (200 + (d - 200))
    rw [show 200 + (d - 200) = d by omega]
theorem spo_lt {ρ : gRm} (h : ∀ p, p < 6 → ∀ d, ρ 10 p = some d → 200 ≤ d ∧ d < 400) : ∀ p r, p < 6 → spo ρ p = some r → r < 200 := by
  intro p r hp
  unfold spo
  rcases e : ρ 10 p with _ | d
  · intro h2; cases h2
  · have := h p hp d e
    intro h2
    simp only [Option.map_some, Option.some.injEq] at h2
    omega
theorem okX_1 {y : Int32} {wk : Nat} {r3 : Nat → Int32} {p : Nat} {M : gMm} (hp : p < 6) (h : okX y wk r3 M) : okX y wk r3 (xWk1 p M) := by
  unfold xWk1
  split
  · rename_i hc
    obtain ⟨h1, ⟨h2, h2b, h3⟩, h4, nb, h5, h6, h7⟩ := h
    have hnb : nbo M.1 = nb := by rw [nbo, h6, nI_cl1 (by omega)]
    rcases hs : spo M.2.1 p with _ | r
    · exact absurd hs hc.1
    · have hr := spo_lt h4 p r hp hs
      rw [hnb, Option.getD_some]
      have hF1 : gFix (up2 M.2.1 10 p none) M.2.2 := gFix_up h1 (gst_arr (by decide)) rfl
      have h4' : ∀ q, q < 6 → ∀ d, up2 M.2.1 10 p none 10 q = some d → 200 ≤ d ∧ d < 400 := by
        intro q hq d
        rw [up2_row]
        by_cases hqp : q = p
        · subst hqp; rw [va_up_self]; intro hh; cases hh
        · rw [va_up_ne _ _ hqp]; exact h4 q hq d
      by_cases hn : nb = 40
      · rw [xKeepI, if_pos hn, xKeepR, if_pos hn, xKeepL, if_pos hn]
        refine ⟨hF1, ⟨?_, ?_, ?_⟩, h4', nb, h5, ?_, h7⟩
        · dsimp only; rw [up2_ne _ _ _ (by omega)]; exact h2
        · dsimp only; rw [up2_ne _ _ _ (by omega)]; exact h2b
        · dsimp only; rw [up2_ne _ _ _ (by omega)]; exact h3
        · dsimp only; rw [up2_ne _ _ _ (by omega)]; exact h6
      · rw [xKeepI, if_neg hn, xKeepR, if_neg hn, xKeepL, if_neg hn]
        have hF2 := gFix_up (gFix_up (gFix_new (c := 800 + nb) (n := 0) hF1 (by omega) rfl rfl) (c := 800 + nb) (k := 0) (o := some (200 + r)) (gst_none (by omega)) rfl) (c := 15) (k := nb) (o := some (800 + nb)) (gst_arr (by decide)) rfl
        refine ⟨hF2, ⟨?_, ?_, ?_⟩, ?_, nb + 1, by omega, ?_, ?_⟩
        · dsimp only; rw [up2_ne _ _ _ (by omega), up2_ne _ _ _ (by omega), up2_ne _ _ _ (by omega), va_up_ne _ _ (by omega), up2_ne _ _ _ (by omega)]; exact h2
        · dsimp only; rw [up2_ne _ _ _ (by omega), up2_ne _ _ _ (by omega), up2_ne _ _ _ (by omega), va_up_ne _ _ (by omega), up2_ne _ _ _ (by omega)]; exact h2b
        · dsimp only; rw [up2_ne _ _ _ (by omega), up2_ne _ _ _ (by omega), up2_ne _ _ _ (by omega), va_up_ne _ _ (by omega), up2_ne _ _ _ (by omega)]; exact h3
        · intro q hq d hd
          dsimp only at hd
          rw [up2_ne _ _ _ (by omega), up2_ne _ _ _ (by omega), va_up_ne _ _ (by omega)] at hd
          exact h4' q hq d hd
        · dsimp only; rw [up2_row, va_up_self, nI_succ]
        · intro i hi h40
          show 800 + i ∉ M.2.2.1 ++ [800 + nb]
          intro hm
          rcases List.mem_append.mp hm with hm | hm
          · exact h7 i (by omega) h40 hm
          · have := List.mem_singleton.mp hm
            omega
  · exact h
theorem okX_P {y : Int32} {wk : Nat} {r3 : Nat → Int32} {M : gMm} (h : okX y wk r3 M) : okX y wk r3 (xWkP M) := fo_inv (fun _ M => okX y wk r3 M) 6 (fun i a hi h => okX_1 hi h) 6 0 M rfl h
theorem okX_s {y : Int32} {wk : Nat} {r3 : Nat → Int32} {M : gMm} {w : Int32} (h : okX y wk r3 M) : okX y wk r3 (xSoak M.1 w 6, M.2) := by
  obtain ⟨h1, ⟨h2, h2b, h3⟩, h4, nb, h5, h6, h7⟩ := h
  refine ⟨h1, ⟨?_, ?_, ?_⟩, h4, nb, h5, ?_, h7⟩
  · dsimp only; rw [xSoak, va_up_ne _ _ (by omega)]; exact h2
  · dsimp only; rw [xSoak, va_up_ne _ _ (by omega)]; exact h2b
  · dsimp only; rw [xSoak, va_up_ne _ _ (by omega)]; exact h3
  · dsimp only; rw [xSoak, va_up_ne _ _ (by omega)]; exact h6
theorem okX_k {y : Int32} {wk : Nat} {r3 : Nat → Int32} {M : gMm} (h : okX y wk r3 M) : okX y (wk + 1) r3 (xWk M) := by
  have h' : okX y wk r3 (xWkP (xSk M)) := okX_P (okX_s (w := sWet (M.1 3) (M.1 2 1).toNatClampNeg) h)
  show okX y (wk + 1) r3 (up2 (xWkP (xSk M)).1 2 1 ((xWkP (xSk M)).1 2 1 + 1), (xWkP (xSk M)).2)
  obtain ⟨h1, ⟨h2, h2b, h3⟩, h4, nb, h5, h6, h7⟩ := h'
  refine ⟨h1, ⟨?_, ?_, ?_⟩, h4, nb, h5, ?_, h7⟩
  · dsimp only; rw [up2_row, va_up_ne _ _ (by omega)]; exact h2
  · dsimp only; rw [up2_row, va_up_self]; rw [h2b, nI_succ]
  · dsimp only; rw [up2_ne _ _ _ (by omega)]; exact h3
  · dsimp only; rw [up2_ne _ _ _ (by omega)]; exact h6
