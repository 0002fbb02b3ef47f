/-! calls of both: ropes -/
theorem nI_sub {a b : Nat} (h : b ≤ a) : nI a - nI b = nI (a - b) := by
  have := nI_add (a - b) b
  rw [show a - b + b = a by omega] at this
  rw [← this]
  grind
theorem nI_div10 : ∀ f, f < 2001 → nI f / 10 = nI (f / 10) := by decide +kernel
theorem iB_mono {ι : gIm} {ρ : gRm} {yr wk nr n2 : Nat} (h : iB ι ρ yr wk nr) (hn : nr ≤ n2) : iB ι ρ yr wk n2 := fun p hp => by
  obtain ⟨u1, u2⟩ := h p hp
  exact ⟨fun d hd => by have := u1 d hd; exact ⟨this.1, by omega, this.2.2⟩, u2⟩
theorem iK_mono {ι : gIm} {ρ : gRm} {nr n2 nb : Nat} (h : iK ι ρ nr nb) (hn : nr ≤ n2) : iK ι ρ n2 nb := by
  obtain ⟨h1, h2, h3, h4⟩ := h
  exact ⟨h1, h2, h3, fun i hi => by have := h4 i hi; exact ⟨this.1, this.2.1, Nat.lt_of_lt_of_le this.2.2.1 hn, this.2.2.2⟩⟩
theorem xr_get (ι : gIm) (nr : Nat) (kind s y : Int32) (d j : Nat) (hr : nr ≤ 200) : xRopeI ι nr kind s y d j = if d = 7 then (if j = 1 then nI nr + 1 else ι 7 j) else if d = 200 + nr then (if j = 3 then y else if j = 2 then s else if j = 1 then kind else if j = 0 then nI nr else if j = 8 then -9 else 0) else ι d j := by
  unfold xRopeI
  simp only [up2_get, va_up2_get]
  grind
theorem ma_get (ι : gIm) (nr : Nat) (kind s a b c : Int32) (d j : Nat) : mAdds ι nr kind s a b c d j = if d = 40 then (if j = 5 then nI nr + 1 else ι 40 j) else if d = 56 then (if j = 3 * nr then a else if j = 3 * nr + 1 then b else if j = 3 * nr + 2 then c else ι 56 j) else
    if d = 52 ∧ j = nr then kind else if d = 53 ∧ j = nr then s else if d = 54 ∧ j = nr then ι 40 2 else if d = 55 ∧ j = nr then -9 else ι d j := by
  unfold mAdds
  simp only [up2_get]
  by_cases h1 : d = 40
  · subst h1; grind
  · by_cases h2 : d = 56
    · subst h2; grind
    · simp only [h1, h2, false_and, if_false]
      by_cases h3 : j = nr
      · subst h3; grind
      · grind
theorem xrR_get (ρ : gRm) (nr d j : Nat) (hr : nr < 200) : xRopeR ρ nr d j = if d = 8 ∧ j = nr then some (200 + nr) else if d = 200 + nr then (if j = 5 then some (600 + nr) else if j = 4 then some (400 + nr) else none) else if d = 400 + nr ∨ d = 600 + nr then none else ρ d j := by
  unfold xRopeR
  simp only [up2_get, va_up2_get]
  grind
theorem xrL_get (Λ : gLm) (nr n d : Nat) (hr : nr < 200) : (xRopeL Λ nr n).2 d = if d = 200 + nr then 0 else if d = 400 + nr ∨ d = 600 + nr then n else Λ.2 d := by
  unfold xRopeL va_up
  grind
theorem xr_fix {ρ : gRm} {Λ : gLm} (h : gFix ρ Λ) (nr n : Nat) : gFix (xRopeR ρ nr) (xRopeL Λ nr n) :=
  gFix_up (gFix_up (gFix_up (gFix_new (c := 200 + nr) (n := 0) (gFix_new (c := 600 + nr) (n := n) (gFix_new (c := 400 + nr) (n := n) h (by omega) rfl rfl) (by omega) rfl rfl) (by omega) rfl rfl) (gst_none (by omega)) rfl) (gst_none (by omega)) rfl) (gst_arr (by decide)) rfl
theorem xr_iF {Λ : gLm} {nh nr nb : Nat} (h : iF Λ nh nr nb) (hr : nr < 200) (n : Nat) : iF (xRopeL Λ nr n) nh (nr + 1) nb := by
  obtain ⟨f1, f2, f3⟩ := h
  have hm : ∀ d, d ∈ (xRopeL Λ nr n).1 → d ∈ Λ.1 ∨ d = 400 + nr ∨ d = 600 + nr ∨ d = 200 + nr := by
    intro d hd
    have : d ∈ Λ.1 ++ [400 + nr] ++ [600 + nr] ++ [200 + nr] := hd
    simp only [List.mem_append, List.mem_singleton] at this
    rcases this with ((h | h) | h) | h
    · exact Or.inl h
    · exact Or.inr (Or.inl h)
    · exact Or.inr (Or.inr (Or.inl h))
    · exact Or.inr (Or.inr (Or.inr h))
  have hh : ∀ d, ¬ (d = 400 + nr ∨ d = 600 + nr ∨ d = 200 + nr) → d ∉ Λ.1 → d ∉ (xRopeL Λ nr n).1 := fun d g1 g2 g3 => (hm d g3).elim g2 g1
  refine ⟨fun i g4 g5 => hh _ (by omega) (f1 i g4 g5), fun r g4 g5 => ⟨hh _ (by omega) (f2 r (by omega) g5).1, hh _ (by omega) (f2 r (by omega) g5).2.1, hh _ (by omega) (f2 r (by omega) g5).2.2⟩, fun i g4 g5 => hh _ (by omega) (f3 i g4 g5)⟩
/-- a new rope, what may change -/
theorem iN_new {ι z : gIm} {ρ : gRm} {Λ : gLm} {nr : Nat} {kd : Int32} (h : iN ι ρ Λ nr) (hr : nr < 200) (n : Nat) (hn : n = cn kd) (ex : ∀ r j, r < nr → ¬ (j = 6) → z (200 + r) j = ι (200 + r) j) (em : ∀ d r, r < nr → 52 ≤ d ∧ d ≤ 55 → z d r = ι d r) (e58 : ∀ r, r < nr → (z 58 r = 0 ↔ z (200 + r) 6 = 0 ∧ z (200 + r) 7 = 0)) (e58' : ∀ r, nr ≤ r → r < 200 → z 58 r = ι 58 r)
    (e7 : z 7 1 = nI nr + 1) (e40 : z 40 5 = nI nr + 1) (n0 : z (200 + nr) 0 = nI nr ∧ z (200 + nr) 1 = kd ∧ z (200 + nr) 2 = z 53 nr ∧ z (200 + nr) 3 = z 54 nr ∧ z (200 + nr) 8 = z 55 nr ∧ z (200 + nr) 6 = 0 ∧ z (200 + nr) 7 = 0 ∧ z 52 nr = kd) : iN z (xRopeR ρ nr) (xRopeL Λ nr n) (nr + 1) := by
  obtain ⟨h1, h2, h3, h4, h5⟩ := h
  refine ⟨by rw [e7, nI_succ], by rw [e40, nI_succ], by omega, fun r hr2 => ?_, fun r g1 g2 => by rw [e58' r (by omega) g2]; exact h5 r (by omega) g2⟩
  by_cases hh : r < nr
  · have g := h4 r hh
    obtain ⟨⟨u1, u2, u3⟩, ⟨u4, u5⟩, ⟨u6, u7, u8, u9, v1⟩, v2⟩ := g
    refine ⟨⟨?_, ?_, ?_⟩, ⟨?_, ?_⟩, ?_, e58 r hh⟩
    · rw [xrR_get _ _ _ _ hr, if_neg (by omega), if_neg (by omega), if_neg (by omega)]; exact u1
    · rw [xrR_get _ _ _ _ hr, if_neg (by omega), if_neg (by omega), if_neg (by omega)]; exact u2
    · rw [xrR_get _ _ _ _ hr, if_neg (by omega), if_neg (by omega), if_neg (by omega)]; exact u3
    · rw [xrL_get _ _ _ _ hr, if_neg (by omega), if_neg (by omega), ex r 1 hh (by decide)]; exact u4
    · rw [xrL_get _ _ _ _ hr, if_neg (by omega), if_neg (by omega), ex r 1 hh (by decide)]; exact u5
    · rw [ex r 0 hh (by decide), ex r 1 hh (by decide), ex r 2 hh (by decide), ex r 3 hh (by decide), ex r 8 hh (by decide), em 52 r hh (by omega), em 53 r hh (by omega), em 54 r hh (by omega), em 55 r hh (by omega)]
      exact ⟨u6, u7, u8, u9, v1⟩
  · have hh2 : r = nr := by omega
    subst hh2
    obtain ⟨u0, u1, u2, u3, u4, u5, u6, u7⟩ := n0
    refine ⟨⟨?_, ?_, ?_⟩, ⟨?_, ?_⟩, ⟨u0, ?_, u2, u3, u4⟩, ?_⟩
    · rw [xrR_get _ _ _ _ hr, if_pos (by omega)]
    · rw [xrR_get _ _ _ _ hr, if_neg (by omega), if_pos rfl, if_neg (by decide), if_pos rfl]
    · rw [xrR_get _ _ _ _ hr, if_neg (by omega), if_pos rfl, if_pos rfl]
    · rw [xrL_get _ _ _ _ hr, if_neg (by omega), if_pos (by omega), u1]; exact hn
    · rw [xrL_get _ _ _ _ hr, if_neg (by omega), if_pos (by omega), u1]; exact hn
    · rw [u1, u7]
    · rw [e58' r (Nat.le_refl _) hr, u5, u6]
      exact ⟨fun _ => ⟨rfl, rfl⟩, fun _ => h5 r (Nat.le_refl _) hr⟩
theorem sCords_eq {ι : gIm} {x : Nat} (h : iH1 ι x) : sCords (ι 51 x) (ι 46 x) (ι 48 x) = hr ι 5 x / 10 - hr ι 7 x := by
  obtain ⟨⟨t0, t1, t2, t3, t4, t5, t6⟩, t7, t8, -⟩ := h
  unfold sCords hr
  by_cases q : ι 51 x = 0
  · obtain ⟨u1, u2, u3⟩ := t7 q
    rw [if_pos q, u1, u3]
    decide
  · rw [if_neg q, (t8 q).1, t5]
theorem cSmall_0 {a b c la lb lc n ropes : Int32} (h : cSmall a b c n la lb lc ropes = 0) : (0 ≤ a ∧ a < n) ∧ (0 ≤ b ∧ b < n) ∧ (0 ≤ c ∧ c < n) ∧ ¬ la < sSame a b c a ∧ ¬ lb < sSame a b c b ∧ ¬ lc < sSame a b c c ∧ ¬ ropes = 200 := by
  unfold cSmall at h
  split at h
  · rename_i h1
    split at h
    · exact absurd h (by decide)
    · rename_i h2
      split at h
      · exact absurd h (by decide)
      · rename_i h3
        exact ⟨h1.1, h1.2.1, h1.2.2, fun q => h2 (Or.inl q), fun q => h2 (Or.inr (Or.inl q)), fun q => h2 (Or.inr (Or.inr q)), h3⟩
  · exact absurd h (by decide)
theorem nI_neg : ∀ m, m < 201 → 0 < m → -(nI m) < 0 := by decide +kernel
/-- how often a house gives a cord -/
def nSame (a b c x : Nat) : Nat := (if x = a then 1 else 0) + (if x = b then 1 else 0) + (if x = c then 1 else 0)
theorem sSame_n {a b c x : Nat} (ha : a < 1000) (hb : b < 1000) (hc : c < 1000) (hx : x < 1000) : sSame (nI a) (nI b) (nI c) (nI x) = nI (nSame a b c x) := by
  unfold sSame nSame
  have e : ∀ y, y < 1000 → (nI y = nI x ↔ x = y) := fun y hy => (nI_eq (by omega) (by omega)).trans eq_comm
  simp only [e a ha, e b hb, e c hc]
  split <;> split <;> split <;> decide
theorem used_le {f u : Int32} {n : Nat} (hf : 0 ≤ f ∧ f ≤ 2000) (hu : 0 ≤ u ∧ u ≤ 200) (hn : n ≤ 3) (h : ¬ f / 10 - u < nI n) : 0 ≤ u + nI n ∧ u + nI n ≤ 200 := by
  obtain ⟨g, hg, rfl⟩ := nI_of2 (M := 2000) (n := 2000) rfl (by grind) hf.2
  obtain ⟨w, hw, rfl⟩ := nI_of2 (M := 200) (n := 200) rfl (by grind) hu.2
  rw [nI_div10 g (by omega)] at h
  rw [nI_add]
  by_cases h2 : w ≤ g / 10
  · rw [nI_sub h2, nI_ltI (by omega) (by omega)] at h
    exact ⟨nI_pos' (by omega), (show nI _ ≤ nI 200 from nI_le (by omega) (by omega))⟩
  · exfalso
    have e : nI (g / 10) - nI w = -(nI (w - g / 10)) := by
      rw [← nI_sub (by omega : g / 10 ≤ w)]
      grind
    rw [e] at h
    exact h (Int32.lt_of_lt_of_le (nI_neg _ (by omega) (by omega)) (nI_pos' (by omega)))
theorem used_no {n : Nat} (hn : 1 ≤ n) (hn3 : n ≤ 3) : (0 : Int32) / 10 - 0 < nI n := nI_lt (a := 0) (by omega) (by omega)

theorem sm_x (ι : gIm) (nr a b c : Nat) (y : Int32) (d j : Nat) (hr : nr < 200) (ha : a < 24) (hb : b < 24) (hc : c < 24) (h : ¬ (d = 7 ∨ d = 200 + nr ∨ d = 400 + nr ∨ d = 600 + nr)) : xSmallI ι nr a b c y d j = if (100 ≤ d ∧ d < 124) ∧ j = 7 then ι d j + nI (nSame a b c (d - 100)) else ι d j := by
  unfold xSmallI
  rw [xr_get _ _ _ _ _ _ _ (by omega), if_neg (by omega), if_neg (by omega)]
  unfold inc nSame
  simp only [up2_get, va_up2_get]
  rw [if_neg (show ¬ d = 600 + nr by omega), if_neg (show ¬ d = 400 + nr by omega)]
  by_cases h1 : (100 ≤ d ∧ d < 124) ∧ j = 7
  · obtain ⟨⟨h2, h3⟩, rfl⟩ := h1
    rw [if_pos (by omega : (100 ≤ d ∧ d < 124) ∧ 7 = 7)]
    have q1 : (d = 100 + a) ↔ d - 100 = a := by omega
    have q2 : (d = 100 + b) ↔ d - 100 = b := by omega
    have q3 : (d = 100 + c) ↔ d - 100 = c := by omega
    have n0 : nI (0 + 0 + 0) = 0 := rfl
    have n1 : nI (1 + 0 + 0) = 1 := rfl
    have n2 : nI (0 + 1 + 0) = 1 := rfl
    have n3 : nI (0 + 0 + 1) = 1 := rfl
    have n4 : nI (1 + 1 + 0) = 2 := rfl
    have n5 : nI (1 + 0 + 1) = 2 := rfl
    have n6 : nI (0 + 1 + 1) = 2 := rfl
    have n7 : nI (1 + 1 + 1) = 3 := rfl
    by_cases e1 : d - 100 = a <;> by_cases e2 : d - 100 = b <;> by_cases e3 : d - 100 = c <;> grind
  · rw [if_neg h1]
    grind
theorem sm_m (z : gIm) (nr a b c : Nat) (d j : Nat) (h : ¬ (d = 40 ∨ d = 56 ∨ (52 ≤ d ∧ d ≤ 55) ∨ (d = 57 ∧ 3 * nr ≤ j ∧ j < 3 * nr + 3))) (ha : a < 24) (hb : b < 24) (hc : c < 24) : mSmall z nr (nI a) (nI b) (nI c) d j = if d = 48 then z d j + nI (nSame a b c j) else z d j := by
  unfold mSmall
  rw [ma_get, if_neg (by omega), if_neg (by omega), if_neg (by omega), if_neg (by omega), if_neg (by omega), if_neg (by omega), nI_cl1 (by omega), nI_cl1 (by omega), nI_cl1 (by omega)]
  unfold inc nSame
  simp only [up2_get]
  rw [if_neg (by omega), if_neg (by omega), if_neg (by omega)]
  have n0 : nI (0 + 0 + 0) = 0 := rfl
  have n1 : nI (1 + 0 + 0) = 1 := rfl
  have n2 : nI (0 + 1 + 0) = 1 := rfl
  have n3 : nI (0 + 0 + 1) = 1 := rfl
  have n4 : nI (1 + 1 + 0) = 2 := rfl
  have n5 : nI (1 + 0 + 1) = 2 := rfl
  have n6 : nI (0 + 1 + 1) = 2 := rfl
  have n7 : nI (1 + 1 + 1) = 3 := rfl
  by_cases h1 : d = 48
  · subst h1
    by_cases e1 : j = a <;> by_cases e2 : j = b <;> by_cases e3 : j = c <;> grind
  · rw [if_neg h1]
    grind
