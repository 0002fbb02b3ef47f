/-! the first memory -/
def zI : gIm := fun _ _ => 0
def zR : gRm := fun _ _ => none
def zL : gLm := ([], fun _ => 0)
def nwL (Λ : gLm) (c : Nat) : gLm := (Λ.1 ++ [c], va_up Λ.2 c 0)
def iI1 : gIm := xIniI (va_up zI 0 (fun _ => 0))
def iR1 : gRm := xIniR (va_up zR 0 (fun _ => none))
def iL1 : gLm := xIniL (nwL zL 0)
def iI2 : gIm := mIniI (va_up iI1 40 (fun _ => 0))
def iR2 : gRm := mIniR (va_up iR1 40 (fun _ => none))
def iL2 : gLm := mIniL (nwL iL1 40)
theorem ini_L : ∀ d, d ∈ iL2.1 → d < 77 := by decide +kernel
theorem ini_ln : ∀ c, c < 77 → ∀ n, n ∈ gln c → iL2.2 c = n := by decide +kernel
theorem ini_st : ∀ c, c < 77 → ∀ k, k < 46 → gst c k = none ∨ iR2 c k = gst c k := by decide +kernel
theorem ini_sl : ∀ c, c < 77 → (gstL.getD c []).length ≤ 46 := by decide +kernel
theorem ini_fix : gFix iR2 iL2 := by
  refine ⟨fun c k d h => ?_, fun c n h => ini_ln c (gln_lt h) n h⟩
  have hc := gst_lt h
  have hk : k < 46 := by
    rcases Nat.lt_or_ge k 46 with g | g
    · exact g
    · exfalso
      unfold gst at h
      have := ini_sl c hc
      rw [List.getD_eq_getElem?_getD, List.getElem?_eq_none (by omega)] at h
      cases h
  rcases ini_st c hc k hk with g | g
  · rw [g] at h; cases h
  · rw [g]; exact h
theorem ini_S : ∀ k, k < 52 → iI2 3 k = iI2 42 k ∧ -1 ≤ iI2 3 k ∧ iI2 3 k ≤ 9 := by decide +kernel
theorem ini_H : ∀ i, i < 24 → iI2 48 i = 0 ∧ iI2 49 i = 0 ∧ iI2 51 i = 0 := by decide +kernel
theorem ini_N : ∀ r, r < 200 → iI2 58 r = 0 := by decide +kernel
theorem ini_B : ∀ p, p < 6 → iR2 10 p = none ∧ iI2 59 p = -9 ∧ iI2 11 p = 0 ∧ iI2 60 p = 0 ∧ iI2 12 p = 0 ∧ iI2 61 p = 0 ∧ iI2 13 p = 0 ∧ iI2 62 p = 0 := by decide +kernel
theorem ini_27 : ∀ S, S < 256 → iI2 27 S = 0 := by decide +kernel
theorem ini_one : (iI2 2 0 = 0 ∧ iI2 40 2 = 0 ∧ iI2 2 1 = 0 ∧ iI2 40 3 = 0) ∧ (iI2 4 2 = 0 ∧ iI2 40 4 = 0 ∧ iI2 4 3 = iI2 40 6) ∧ (iI2 7 1 = 0 ∧ iI2 40 5 = 0) ∧ (iI2 14 1 = 0 ∧ iI2 40 7 = 0) ∧ (iI2 16 5 = 0 ∧ iI2 40 8 = 0 ∧ iI2 16 6 = 0) ∧ (iI2 31 4 = 0 ∧ iI2 40 9 = 0) ∧ (iI2 24 0 = 0 ∧ iI2 25 0 = 0 ∧ iI2 29 0 = 0 ∧ iI2 30 0 = 0) ∧ iI2 22 14 = -1 := by decide +kernel
theorem ini_row : ∀ c, c < 77 → c = 1 ∨ c = 41 ∨ c = 32 ∨ c = 33 ∨ c = 34 ∨ c = 74 ∨ c = 75 ∨ c = 76 → ∀ k, iI2 c k = 0 := by
  intro c _ h k
  rcases h with h | h | h | h | h | h | h | h <;> subst h <;> rfl
theorem ini_inv : Inv 0 iI2 iR2 iL2 := by
  obtain ⟨⟨o1, o2, o3, o4⟩, ⟨p1, p2, p3⟩, ⟨q1, q2⟩, ⟨r1, r2⟩, ⟨s1, s2, s3⟩, ⟨t1, t2⟩, ⟨u1, u2, u3, u4⟩, v1⟩ := ini_one
  refine ⟨0, 0, 0, 0, 0, 0, 0, 0, ini_fix, ?_, ?_, ?_, ?_, fun r hr => by omega, ?_, ?_, ?_, ?_, ?_, ?_, Nat.le_refl _⟩
  · intro k
    rw [ini_row 1 (by omega) (by omega), ini_row 41 (by omega) (by omega)]
  · exact ⟨o1, o2, by omega, o3, o4, by omega, ini_S⟩
  · exact ⟨p1, p2, by omega, p3, fun i hi => by omega, fun i _ hi => ini_H i hi⟩
  · exact ⟨q1, q2, by omega, fun r hr => by omega, fun r _ hr => ini_N r hr⟩
  · intro p hp
    obtain ⟨b1, b2, b3, b4, b5, b6, b7, b8⟩ := ini_B p hp
    unfold iB1 spo
    rw [b1, b2, b3, b4, b5, b6, b7, b8]
    exact ⟨fun d hd => (by cases hd), ⟨rfl, rfl, rfl⟩, ⟨0, rfl, by omega⟩, 0, by omega, rfl, rfl⟩
  · exact ⟨r1, r2, by omega, fun i hi => by omega⟩
  · exact ⟨s1, s2, by omega, s3, fun s hs => by omega⟩
  · refine ⟨t1, t2, by omega, fun c hc => by omega, fun k => ?_⟩
    rw [ini_row 32 (by omega) (by omega), ini_row 33 (by omega) (by omega), ini_row 34 (by omega) (by omega), ini_row 74 (by omega) (by omega), ini_row 75 (by omega) (by omega), ini_row 76 (by omega) (by omega)]
    exact ⟨rfl, rfl, rfl⟩
  · refine ⟨⟨⟨u1, u2, u3, u4⟩, fun S hS => ?_⟩, Or.inl v1, fun _ h => ?_⟩
    · have e : opR iI2 S = 0 := by unfold opR; rw [ini_27 S hS]; rfl
      rw [ini_27 S hS, e]
      exact ⟨rfl, by omega⟩
    · rw [s3, v1] at h
      exact absurd h (by decide)
  · have hh : ∀ d, 77 ≤ d → d ∉ iL2.1 := fun d hd hm => by have := ini_L d hm; omega
    exact ⟨fun i _ _ => hh _ (by omega), fun r _ _ => ⟨hh _ (by omega), hh _ (by omega), hh _ (by omega)⟩, fun i _ _ => hh _ (by omega)⟩
