/-! the planner of the class, the whole -/
def cin (ι : gIm) (n : Nat) (P A hd dy : Nat → Nat) (H0 hhN : Nat) : Prop := (n ≤ 8 ∧ H0 < 64 ∧ hhN < 1000000) ∧ okD ι n P hd dy ∧ (∀ s, s < n → A s < 256) ∧ (∀ s, s < n → ι 18 s = nI (P s) ∧ ι 21 s = nI (A s)) ∧ iQ0 ι
section CLS
variable {ι : gIm} {n : Nat} {P A hd dy : Nat → Nat} {H0 hhN : Nat}
theorem ldB_lt (kd : Nat → Int32) (x : Int32) : ∀ m, ldB kd x m < 2 ^ m
  | 0 => by unfold ldB; rw [fo_0]; omega
  | m + 1 => by
    rw [ldB_s]
    have h1 : ldB kd x m < 2 ^ (m + 1) := Nat.lt_of_lt_of_le (ldB_lt kd x m) (Nat.pow_le_pow_right (by omega) (by omega))
    refine Nat.or_lt_two_pow h1 ?_
    split
    · exact Nat.pow_lt_pow_right (by omega) (by omega)
    · exact Nat.two_pow_pos _
theorem ldB_tb (kd : Nat → Int32) (x : Int32) (s : Nat) : ∀ m, tb (ldB kd x m) s ↔ s < m ∧ kd s = x
  | 0 => ⟨fun q => absurd q tb_0, fun q => absurd q.1 (by omega)⟩
  | m + 1 => by
    rw [ldB_s, tb_or, ldB_tb kd x s m]
    by_cases q : kd m = x
    · rw [if_pos q, tb_two]
      constructor
      · rintro (g | g)
        · exact ⟨by omega, g.2⟩
        · subst g; exact ⟨by omega, q⟩
      · rintro ⟨g1, g2⟩
        by_cases e : s = m
        · exact Or.inr e
        · exact Or.inl ⟨by omega, g2⟩
    · rw [if_neg q]
      constructor
      · rintro (g | g)
        · exact ⟨by omega, g.2⟩
        · exact absurd g tb_0
      · rintro ⟨g1, g2⟩
        by_cases e : s = m
        · subst e; exact absurd g2 q
        · exact Or.inl ⟨by omega, g2⟩
theorem see_22 (ι : gIm) (hg hh : Int32) (n : Nat) (j : Nat) : xSee0 ι hg hh n 22 j = if j = 9 then nI n else if j = 14 then ι 16 6 else if j = 13 then hh else if j = 12 then hg else ι 22 j := by
  unfold xSee0
  simp only [up2_get, true_and]
theorem see_ne (ι : gIm) (hg hh : Int32) (n : Nat) {c : Nat} (h : c ≠ 22) : xSee0 ι hg hh n c = ι c := by
  unfold xSee0
  rw [up2_ne _ _ _ h, up2_ne _ _ _ h, up2_ne _ _ _ h, up2_ne _ _ _ h]
theorem su_all (h : cin ι n P A hd dy H0 hhN) : suJ ι P hd dy H0 n (xSu P n (xSee0 ι (nI H0) (nI hhN) n)) ∧ (∀ c, c ≠ 22 → c ≠ 23 → c ≠ 24 → c ≠ 25 → (xSu P n (xSee0 ι (nI H0) (nI hhN) n)) c = ι c) ∧ ∀ j, j ≠ 10 → j ≠ 11 → (xSu P n (xSee0 ι (nI H0) (nI hhN) n)) 22 j = xSee0 ι (nI H0) (nI hhN) n 22 j := by
  obtain ⟨⟨h1, h2, h3⟩, h4, h5, h6, ⟨⟨q1, q2, q3, q4⟩, q5⟩⟩ := h
  generalize hy : xSee0 ι (nI H0) (nI hhN) n = y
  have yn : ∀ c, c ≠ 22 → y c = ι c := fun c hc => by rw [← hy]; exact see_ne _ _ _ _ hc
  have y12 : y 22 12 = nI H0 := by rw [← hy, see_22, if_neg (by decide), if_neg (by decide), if_neg (by decide), if_pos rfl]
  generalize hz : up2 (up2 (up2 y 22 10 0) 22 11 0) 23 0 (y 22 12) = z
  have zn : ∀ c, c ≠ 22 → c ≠ 23 → z c = ι c := fun c a b => by rw [← hz, up2_ne _ _ _ b, up2_ne _ _ _ a, up2_ne _ _ _ a]; exact yn c a
  have z22 : ∀ j, z 22 j = if j = 11 then 0 else if j = 10 then 0 else y 22 j := by
    intro j
    rw [← hz, up2_ne _ _ _ (by decide), up2_row, up2_row]
    unfold va_up
    rfl
  have z23 : z 23 0 = nI H0 := by rw [← hz, up2_get, if_pos ⟨rfl, rfl⟩, y12]
  have base : suJ ι P hd dy H0 0 z := by
    refine ⟨⟨zn 17 (by decide) (by decide), zn 19 (by decide) (by decide), zn 20 (by decide) (by decide)⟩, ⟨?_, ?_⟩, fun S hS => ?_⟩
    · rw [z22, if_neg (by decide), if_pos rfl]; rfl
    · rw [z22, if_pos rfl]; rfl
    · have : S = 0 := by omega
      subst this
      rw [z23, zn 24 (by decide) (by decide), zn 25 (by decide) (by decide), q1, q2]
      exact ⟨rfl, rfl, rfl⟩
  have all : ∀ m i z, i + m = n → suJ ι P hd dy H0 i z → suJ ι P hd dy H0 n (fo (xSu1 P) m i z) := by
    intro m
    induction m with
    | zero => intro i z hi hj; have : i = n := by omega
              subst this; exact hj
    | succ m ih => intro i z hi hj; rw [fo_s]; exact ih (i + 1) _ (by omega) (suJ_s h4 h2 h1 (by omega) hj)
  have fne : ∀ c, c ≠ 22 → c ≠ 23 → c ≠ 24 → c ≠ 25 → ∀ m i z, fo (xSu1 P) m i z c = z c := by
    intro c a b d e m
    induction m with
    | zero => intro i z; rfl
    | succ m ih => intro i z; rw [fo_s, ih, xSu1_ne ⟨a, b, d, e⟩]
  have f22 : ∀ j, j ≠ 10 → j ≠ 11 → ∀ m i z, fo (xSu1 P) m i z 22 j = z 22 j := by
    intro j a b m
    induction m with
    | zero => intro i z; rfl
    | succ m ih => intro i z; rw [fo_s, ih, xSu1_22 ⟨a, b⟩]
  have e : xSu P n y = fo (xSu1 P) n 0 z := by unfold xSu; rw [hz]
  rw [e]
  refine ⟨all n 0 z (by omega) base, fun c a b d e => ?_, fun j a b => ?_⟩
  · rw [fne c a b d e, zn c a b]
  · rw [f22 j a b, z22, if_neg b, if_neg a]
theorem cin_okP (h : cin ι n P A hd dy H0 hhN) : okP (xSu P n (xSee0 ι (nI H0) (nI hhN) n)) n (ldB (ι 17) 0 n) (ldB (ι 17) 2 n) P A (svH (mvN (ι 17) P) H0 n) := by
  obtain ⟨⟨j1, ⟨j2, j3⟩, j4⟩, s1, s2⟩ := su_all h
  obtain ⟨⟨h1, h2, h3⟩, h4, h5, h6, -⟩ := h
  have hp := n256 h1
  have l0 := ldB_lt (ι 17) 0 n
  have l2 := ldB_lt (ι 17) 2 n
  refine ⟨?_, h1, j2, j3, by omega, by omega, fun s hs => ?_, fun s hs => ?_, fun S hS => ⟨(j4 S hS).1, ?_⟩, hp⟩
  · rw [s2 9 (by decide) (by decide), see_22, if_pos rfl]
  · rw [s1 18 (by decide) (by decide) (by decide) (by decide)]
    exact ⟨(h6 s hs).1, (h4 s hs).1⟩
  · rw [s1 21 (by decide) (by decide) (by decide) (by decide)]
    exact ⟨(h6 s hs).2, h5 s hs⟩
  · refine svH_bd h2 n S (fun s hs => ?_)
    unfold mvN
    split
    · omega
    · exact Nat.pow_lt_pow_right (a := 2) (n := 6) (by omega) (h4 s hs).1
theorem cin_me (h : cin ι n P A hd dy H0 hhN) : pf (xMe n (ldB (ι 17) 0 n) (ldB (ι 17) 2 n) P A (svH (mvN (ι 17) P) H0 n) (xSu P n (xSee0 ι (nI H0) (nI hhN) n))) n P A hd dy H0 hhN ∧ ((xMe n (ldB (ι 17) 0 n) (ldB (ι 17) 2 n) P A (svH (mvN (ι 17) P) H0 n) (xSu P n (xSee0 ι (nI H0) (nI hhN) n))) 17 = ι 17 ∧ (xMe n (ldB (ι 17) 0 n) (ldB (ι 17) 2 n) P A (svH (mvN (ι 17) P) H0 n) (xSu P n (xSee0 ι (nI H0) (nI hhN) n))) 22 = (xSu P n (xSee0 ι (nI H0) (nI hhN) n)) 22) ∧ okR (xMe n (ldB (ι 17) 0 n) (ldB (ι 17) 2 n) P A (svH (mvN (ι 17) P) H0 n) (xSu P n (xSee0 ι (nI H0) (nI hhN) n))) n 0 ∧ iQ0 (xMe n (ldB (ι 17) 0 n) (ldB (ι 17) 2 n) P A (svH (mvN (ι 17) P) H0 n) (xSu P n (xSee0 ι (nI H0) (nI hhN) n))) ∧ (∀ c, c ≠ 22 → c ≠ 23 → c ≠ 24 → c ≠ 25 → c ≠ 26 → c ≠ 27 → (xMe n (ldB (ι 17) 0 n) (ldB (ι 17) 2 n) P A (svH (mvN (ι 17) P) H0 n) (xSu P n (xSee0 ι (nI H0) (nI hhN) n))) c = ι c) := by
  obtain ⟨⟨⟨j17, j19, j20⟩, ⟨j2, j3⟩, j4⟩, s1, s2⟩ := su_all h
  obtain ⟨⟨h1, h2, h3⟩, h4, h5, h6, ⟨⟨q1, q2, q3, q4⟩, q5⟩⟩ := h
  have hp := n256 h1
  have hpos := Nat.two_pow_pos n
  have h13 : (xSu P n (xSee0 ι (nI H0) (nI hhN) n)) 22 13 = nI hhN := by rw [s2 13 (by decide) (by decide), see_22, if_neg (by decide), if_neg (by decide), if_pos rfl]
  have y27 : (xSu P n (xSee0 ι (nI H0) (nI hhN) n)) 27 = ι 27 := s1 27 (by decide) (by decide) (by decide) (by decide)
  have y29 : (xSu P n (xSee0 ι (nI H0) (nI hhN) n)) 29 = ι 29 := s1 29 (by decide) (by decide) (by decide) (by decide)
  have y30 : (xSu P n (xSee0 ι (nI H0) (nI hhN) n)) 30 = ι 30 := s1 30 (by decide) (by decide) (by decide) (by decide)
  generalize hy : (xSu P n (xSee0 ι (nI H0) (nI hhN) n)) = y at *
  have hs : sameP (up2 y 26 (2 ^ n - 1) 0) y := by
    unfold sameP
    rw [up2_ne _ _ _ (by decide), up2_ne _ _ _ (by decide), up2_ne _ _ _ (by decide), up2_ne _ _ _ (by decide), up2_ne _ _ _ (by decide)]
    exact ⟨rfl, rfl, rfl, rfl, rfl⟩
  obtain ⟨m1, m2, m3⟩ := me_spec (y := y) (n := n) (ld := ldB (ι 17) 0 n) (tn := ldB (ι 17) 2 n) (P := P) (A := A) (H := (svH (mvN (ι 17) P) H0 n)) h5 (2 ^ n - 1) (up2 y 26 (2 ^ n - 1) 0) hs
  have e : xMe n (ldB (ι 17) 0 n) (ldB (ι 17) 2 n) P A (svH (mvN (ι 17) P) H0 n) y = xMeN n (ldB (ι 17) 0 n) (ldB (ι 17) 2 n) P A (svH (mvN (ι 17) P) H0 n) (2 ^ n - 1) (up2 y 26 (2 ^ n - 1) 0) := rfl
  have wne : ∀ c, c ≠ 26 → c ≠ 27 → xMe n (ldB (ι 17) 0 n) (ldB (ι 17) 2 n) P A (svH (mvN (ι 17) P) H0 n) y c = y c := fun c a b => xMe_ne a b
  rw [← e] at m1 m2 m3
  generalize xMe n (ldB (ι 17) 0 n) (ldB (ι 17) 2 n) P A (svH (mvN (ι 17) P) H0 n) y = w at *
  have w17 : w 17 = ι 17 := (wne 17 (by decide) (by decide)).trans j17
  have w24 : w 24 = y 24 := wne 24 (by decide) (by decide)
  have w25 : w 25 = y 25 := wne 25 (by decide) (by decide)
  have w22 : w 22 = y 22 := wne 22 (by decide) (by decide)
  have hO : ∀ S, qO w n P A H0 S = opI y n (ldB (ι 17) 0 n) (ldB (ι 17) 2 n) P A (svH (mvN (ι 17) P) H0 n) S := by
    intro S
    unfold qO
    rw [w17]
    exact opI_same m1 _ _ _ _ _ _ _
  have r27 : ∀ S, S < 256 → w 27 S = nI (opR w S) ∧ opR w S < 256 := by
    intro S hS
    by_cases q : S < 2 ^ n - 1
    · have hq : qO w n P A H0 S < 2 ^ n := qO_lt
      have g := (m3 S q).1
      rw [← hO] at g
      unfold opR
      rw [g, nI_cl1 (by omega)]
      exact ⟨rfl, by omega⟩
    · have g := (m2 S (by omega)).2
      rw [up2_ne _ _ _ (by decide), y27] at g
      unfold opR
      rw [g]
      exact q5 S hS
  have p24 : 0 < 2 ^ n := hpos
  have w240 : w 24 0 = 0 ∧ w 25 0 = 0 := by
    obtain ⟨g1, g2, g3⟩ := j4 0 hpos
    rw [w24, w25, g2, g3]
    unfold svA svX
    rw [sv_0, sv_0]
    exact ⟨rfl, rfl⟩
  have w29 : w 29 = ι 29 := (wne 29 (by decide) (by decide)).trans y29
  have w30 : w 30 = ι 30 := (wne 30 (by decide) (by decide)).trans y30
  refine ⟨⟨⟨h1, h2, by rw [w22]; exact h13, h3⟩, fun s hs => ?_, h5, fun S hS => ?_, ?_, fun S hS => ⟨?_, ?_⟩⟩, ⟨w17, w22⟩, ⟨fun j hj => by omega, fun j hj => ?_, r27⟩, ⟨⟨w240.1, w240.2, by rw [w29]; exact q3, by rw [w30]; exact q4⟩, r27⟩, fun c a b d e f g => ?_⟩
  · rw [show w 20 = ι 20 from (wne 20 (by decide) (by decide)).trans j20, show w 19 = ι 19 from (wne 19 (by decide) (by decide)).trans j19]
    exact h4 s hs
  · rw [w24, w25]; exact (j4 S hS).2
  · rw [(m2 (2 ^ n - 1) (Nat.le_refl _)).1, up2_row, va_up_self]
  · rw [hO]; exact (m3 S hS).1
  · rw [hO, w17]; exact (m3 S hS).2
  · have : j = 0 := by omega
    subst this
    unfold dnI
    rw [w29, q3]
    exact ⟨rfl, hpos⟩
  · rw [wne c f g, s1 c a b d e]
theorem ch_0 (ld tn : Nat) (P A H : Nat → Nat) (n : Nat) : ∀ m k (z : gIm), fo (xCh1 n ld tn P A H) m k z 29 0 = z 29 0 ∧ fo (xCh1 n ld tn P A H) m k z 30 0 = z 30 0
  | 0, _, _ => ⟨rfl, rfl⟩
  | m + 1, k, z => by
    rw [fo_s]
    obtain ⟨i1, i2⟩ := ch_0 ld tn P A H n m (k + 1) (xCh1 n ld tn P A H k z)
    rw [i1, i2]
    unfold xCh1
    rw [up2_get, if_neg (by omega), up2_get, if_neg (by omega), up2_get, if_neg (by omega), up2_get, if_neg (by omega), up2_get, if_neg (by omega), up2_get, if_neg (by omega)]
    exact ⟨rfl, rfl⟩
/-- what the class answers from its plan -/
theorem cls_row {w z : gIm} (hpf : pf w n P A hd dy H0 hhN) (y9 : w 22 9 = nI n) (z3 : w 29 0 = 0) (z4 : w 30 0 = 0) (hz : z = xPl2 n (ldB (w 17) 0 n) (ldB (w 17) 2 n) P A (svH (mvN (w 17) P) H0 n) w) : (qR w 0 < 1000000 → vDays z = nI (qR w 0) ∧ bst n (qM w n P A H0) (qO w n P A H0) (svA hd n) (svX dy n) hhN (qR w) 0 (qR w 0) (fun _ => 0) (rwI z) ∧ ∀ k, vStep z k = if 0 ≤ k ∧ k < nI n then nI (rwI z k.toNatClampNeg) else -9) ∧
    (¬ qR w 0 < 1000000 → vDays z = -9 ∧ ∀ k, vStep z k = -9) ∧ eqX z w ∧ z 29 0 = 0 ∧ z 30 0 = 0 := by
  have h8 := hpf.1.1
  have e0 := qR_all hpf (2 ^ n) 0 (Nat.two_pow_pos n) (Nat.sub_le _ _)
  have cap : (1000000 : Int32) = nI 1000000 := rfl
  by_cases q : qR w 0 < 1000000
  · have hc : ¬ (1000000 : Int32) ≤ w 26 0 := by
      rw [e0.1, cap, nI_leI (by omega) (by omega)]; omega
    have ez : z = fo (xCh1 n (ldB (w 17) 0 n) (ldB (w 17) 2 n) P A (svH (mvN (w 17) P) H0 n)) n 0 w := by
      rw [hz, xPl2, if_neg hc, xCh]
    have t0 : tbl w w n P A hd dy H0 hhN 0 := by
      refine ⟨fun _ _ _ _ => rfl, ⟨by unfold dnI; rw [z3]; rfl, by unfold spI; rw [z4]; rfl, fun j hj => by omega, fun j a b => by omega⟩, fun j hj => ?_⟩
      have : j = 0 := by omega
      subst this
      unfold spI
      rw [z4]
      rfl
    have v0 : mn (qR w 0) (CD n (qO w n P A H0) (svA hd n) (svX dy n) hhN (qR w) (rwI w) (dnI w) (spI w) 0) := by
      refine ⟨by omega, fun c hc => ?_, Or.inr (Or.inl ⟨rfl, rfl⟩)⟩
      rcases hc with ⟨-, hc⟩ | ⟨f, G, hf, -⟩
      · omega
      · omega
    have ca := ch_all hpf q n 0 w (by omega) t0 (fun j hj => by omega) v0
    have c0 := ch_0 (ldB (w 17) 0 n) (ldB (w 17) 2 n) P A (svH (mvN (w 17) P) H0 n) n n 0 w
    rw [← ez] at ca c0
    obtain ⟨i1, i2, -, i4⟩ := ca
    have hc2 : ¬ (1000000 : Int32) ≤ z 26 0 := by rw [i1.1 26 (by decide) (by decide) (by decide)]; exact hc
    refine ⟨fun _ => ⟨?_, ⟨fun j hj => by omega, dnI z, spI z, i1.2.1, i4⟩, fun k => ?_⟩, fun g => absurd q g, i1.1, c0.1.trans z3, c0.2.trans z4⟩
    · unfold vDays
      rw [if_neg hc2, i1.1 26 (by decide) (by decide) (by decide), e0.1]
    · unfold vStep
      rw [i1.1 22 (by decide) (by decide) (by decide), y9]
      by_cases g : 0 ≤ k ∧ k < nI n
      · have hk := nn_i g (by omega)
        have hk8 : k < 8 := Int32.lt_of_lt_of_le g.2 (show nI n ≤ nI 8 from nI_le h8 (by omega))
        rw [if_pos g, if_neg (fun g2 => by
          rcases g2 with g2 | g2 | g2 | g2
          · exact hc2 g2
          · exact Int32.lt_irrefl (Int32.lt_of_le_of_lt g.1 g2)
          · exact Int32.lt_irrefl (Int32.lt_of_lt_of_le g.2 g2)
          · exact Int32.lt_irrefl (Int32.lt_of_lt_of_le hk8 g2))]
        exact i2 _ hk
      · rw [if_neg g, if_pos]
        by_cases g1 : k < 0
        · exact Or.inr (Or.inl g1)
        · exact Or.inr (Or.inr (Or.inl (Int32.not_lt.mp (fun g2 => g ⟨Int32.not_lt.mp g1, g2⟩))))
  · have hc : (1000000 : Int32) ≤ w 26 0 := by
      rw [e0.1, cap, nI_leI (by omega) (by omega)]; omega
    have ez : z = w := by rw [hz, xPl2, if_pos hc]
    subst ez
    refine ⟨fun g => absurd g q, fun _ => ⟨?_, fun k => ?_⟩, fun _ _ _ _ => rfl, z3, z4⟩
    · unfold vDays; rw [if_pos hc]
    · unfold vStep; rw [if_pos (Or.inl hc)]
end CLS
