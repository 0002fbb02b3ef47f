/-! calls of both: broken, blame -/
theorem cBroken_0 {w : Int32} (h : cBroken w = 0) : 0 ≤ w ∧ w < 3 := by
  unfold cBroken at h
  split at h
  · assumption
  · exact absurd h (by decide)
theorem bk_ok {ι : gIm} {ρ : gRm} {nr nb : Nat} (h : iK ι ρ nr nb) : ∀ i, i < nb → ρ 15 i = some (800 + i) ∧ ρ (800 + i) 0 = some (200 + bkO ι i) ∧ bkO ι i < nr := fun i hi => by
  obtain ⟨g1, g2, g3, -⟩ := h.2.2.2 i hi
  exact ⟨g1, g2, g3⟩
theorem o_broken {k : Nat} {ι : gIm} {ρ : gRm} {Λ : gLm} {yr wk nh nr nb ns np ch : Nat} (h : Inv8 k ι ρ Λ yr wk nh nr nb ns np ch) (i what : Int32) : Both k 2 3 0 0 jX11_broken jX12_broken [vI i, vI what] ι ρ Λ := by
  obtain ⟨a1, a2, a3, a4, a5, a6, a7, a8, a9, b1, b2, b3, b4⟩ := id h
  have q1 : nh ≤ 24 := a4.2.2.1
  have q2 : nr ≤ 200 := a5.2.2.1
  have q3 : nb ≤ 40 := a8.2.2.1
  have q4 : ns ≤ 12 := a9.2.2.1
  have q5 : np ≤ 30 := b1.2.2.1
  obtain ⟨n1, n2, n3, n4, n5⟩ := id a5
  obtain ⟨k1, k2, k3, k4⟩ := id a8
  refine both_ask h (fun K => x_broken K i what ι ρ Λ a1 nr (fun r hr => (n4 r hr).2.2.1.1) n3 nb k1 q3 (bkO ι) (bk_ok a8)) (fun K z ρ1 Λ1 hF hz => ?_)
  have m := m_broken K i what z ρ1 Λ1 hF nb ((congrFun (hz 40 (by omega) (by omega)) 7).trans k2) q3
  rw [hz 63 (by omega) (by omega)] at m
  rw [rs_eq (w := vBroken (ι 63) (nI nb) i what) (fun hc => ?_)]
  · exact m
  · have hw := cBroken_0 hc
    unfold xBroken vBroken
    by_cases hi : 0 ≤ i ∧ i < nI nb
    · rw [if_pos hi, if_pos hi]
      have hn := nn_i hi (by omega)
      obtain ⟨u1, u2, u3, u4, u5, u6, u7⟩ := k4 _ hn
      generalize i.toNatClampNeg = j at *
      clear m
      obtain ⟨m, m1, rfl⟩ := i32_of (n := 3) hw (by omega)
      rw [nI_cl1 (by omega)]
      rcases (by omega : m = 0 ∨ m = 1 ∨ m = 2) with q | q | q <;> subst q
      · rw [if_pos nI_0, Nat.add_zero, u4]
      · rw [if_neg (by decide), if_pos (by decide), u6]
      · rw [if_neg (by decide), if_neg (by decide), u7]
    · rw [if_neg hi, if_neg hi]
/-- the leaves of a rope of kind 2 -/
theorem leaf {ι : gIm} {nr r : Nat} (hL : iL ι nr) (hn : nr ≤ 200) (hr : r < nr) (h2 : ι 52 r = 2) (m : Nat) (hm : m < 9) : (sSm (ι 56) r m < nr ∧ ∃ q, q < nr ∧ ι 56 (3 * r + m / 3) = nI q ∧ ι 56 (3 * q + m % 3) = nI (sSm (ι 56) r m)) ∧ lfS ι (sSm (ι 56) r m) ∧
    ∀ c, c < 3 → ι (400 + r) (3 * m + c) = ι 56 (3 * sSm (ι 56) r m + c) ∧ ι (600 + r) (3 * m + c) = ι 57 (3 * sSm (ι 56) r m + c) := by
  have hG : lfG ι r := by
    rcases hL r hr with g | g | g
    · rw [h2] at g; exact absurd g.1 (by decide)
    · rw [h2] at g; exact absurd g.1 (by decide)
    · exact g.2.2.2
  obtain ⟨q, g1, g2, g3, g4⟩ := hG (m / 3) (by omega)
  have k1 : ι 52 q = 1 := by rw [h2] at g3; have : ι 52 q + 1 - 1 = 2 - 1 := by rw [g3]
                             grind
  have hGq : lfG ι q := by
    rcases hL q (by omega) with g | g | g
    · rw [k1] at g; exact absurd g.1 (by decide)
    · exact g.2.2.2
    · rw [k1] at g; exact absurd g.1 (by decide)
  obtain ⟨s, f1, f2, f3, f4⟩ := hGq (m % 3) (by omega)
  have k0 : ι 52 s = 0 := by rw [k1] at f3; have : ι 52 s + 1 - 1 = 1 - 1 := by rw [f3]
                             grind
  have hS : lfS ι s := by
    rcases hL s (by omega) with g | g | g
    · exact g.2.2.2
    · rw [k0] at g; exact absurd g.1 (by decide)
    · rw [k0] at g; exact absurd g.1 (by decide)
  have es : sSm (ι 56) r m = s := by
    unfold sSm
    rw [g2, nI_cl1 (by omega), f2, nI_cl1 (by omega)]
  rw [es]
  refine ⟨⟨by omega, q, by omega, g2, f2⟩, hS, fun c hc => ?_⟩
  rw [k1, show cn 1 = 9 from by decide] at g4
  rw [k0, show cn 0 = 3 from by decide] at f4
  have a1 := g4 (m % 3 * 3 + c) (by omega)
  have a2 := f4 c hc
  have a3 := hS.2.1 c hc
  rw [show 3 * m + c = m / 3 * 9 + (m % 3 * 3 + c) by omega]
  exact ⟨a1.1.trans (a2.1.trans a3.1), a1.2.trans (a2.2.trans a3.2.1)⟩
theorem fo_3 (f : Nat → Int32) : ∀ n j a, fo (fun i a => a + f i) (3 * n) (3 * j) a = fo (fun j a => fo (fun c a => a + f (3 * j + c)) 3 0 a) n j a
  | 0, _, _ => rfl
  | n + 1, j, a => by
    rw [show 3 * (n + 1) = 3 * n + 1 + 1 + 1 by omega, fo_s, fo_s, fo_s, fo_s, show 3 * j + 1 + 1 + 1 = 3 * (j + 1) by omega, fo_3 f n (j + 1)]
    rfl
theorem imin_assoc (a x y z : Int32) : imin (imin (imin a x) y) z = imin a (imin x (imin y z)) := by
  unfold imin
  grind
theorem fo_m3 (f g : Nat → Int32) : ∀ n j a, (∀ i, j ≤ i → i < j + n → g i = imin (f (3 * i)) (imin (f (3 * i + 1)) (f (3 * i + 2)))) → fo (fun i a => imin a (f i)) (3 * n) (3 * j) a = fo (fun i a => imin a (g i)) n j a
  | 0, _, _, _ => rfl
  | n + 1, j, a, h => by
    rw [show 3 * (n + 1) = 3 * n + 1 + 1 + 1 by omega, fo_s, fo_s, fo_s, fo_s, show 3 * j + 1 + 1 + 1 = 3 * (j + 1) by omega, fo_m3 f g n (j + 1) _ (fun i h1 h2 => h i (by omega) (by omega)), imin_assoc, ← h j (Nat.le_refl _) (by omega)]
theorem imin_fold_le (f : Nat → Int32) : ∀ n i a, fo (fun i a => imin a (f i)) n i a ≤ a ∧ ∀ j, i ≤ j → j < i + n → fo (fun i a => imin a (f i)) n i a ≤ f j
  | 0, _, a => ⟨Int32.le_refl a, fun j h1 h2 => by omega⟩
  | n + 1, i, a => by
    rw [fo_s]
    obtain ⟨g1, g2⟩ := imin_fold_le f n (i + 1) (imin a (f i))
    have h1 : imin a (f i) ≤ a ∧ imin a (f i) ≤ f i := by unfold imin; grind
    refine ⟨Int32.le_trans g1 h1.1, fun j h2 h3 => ?_⟩
    by_cases hj : j = i
    · subst hj; exact Int32.le_trans g1 h1.2
    · exact g2 j (by omega) (by omega)
theorem imin3_le (x y z : Int32) : imin x (imin y z) ≤ x ∧ imin x (imin y z) ≤ y ∧ imin x (imin y z) ≤ z := by unfold imin; grind
theorem weak_eq {ι : gIm} {nr r : Nat} (hL : iL ι nr) (hn : nr ≤ 200) (hr : r < nr) (h2 : ι 52 r = 2) (x : Int32) : xWeak (ι (400 + r)) (ι (600 + r)) 27 x = sBlame (ι 53) (ι 56) (ι 57) r x := by
  have lfs := leaf hL hn hr h2
  have hsm : ∀ m, m < 9 → ι 53 (sSm (ι 56) r m) = imin (ι (600 + r) (3 * m)) (imin (ι (600 + r) (3 * m + 1)) (ι (600 + r) (3 * m + 2))) := by
    intro m hm
    obtain ⟨-, g2, g3⟩ := lfs m hm
    have c0 := (g3 0 (by omega)).2
    rw [Nat.add_zero, Nat.add_zero] at c0
    rw [c0, (g3 1 (by omega)).2, (g3 2 (by omega)).2]
    exact g2.2.2
  have hle : xLeast (ι (600 + r)) 27 = sLeast (ι 53) (ι 56) r 9 := by
    unfold xLeast sLeast
    exact fo_m3 (ι (600 + r)) (fun m => ι 53 (sSm (ι 56) r m)) 9 0 9 (fun i h1 h2 => hsm i (by omega))
  unfold xWeak sBlame
  rw [hle]
  have hmin : ∀ m, m < 9 → sLeast (ι 53) (ι 56) r 9 ≤ ι 53 (sSm (ι 56) r m) := fun m hm => (imin_fold_le (fun m => ι 53 (sSm (ι 56) r m)) 9 0 9).2 m (by omega) (by omega)
  rw [show (27 : Nat) = 3 * 9 from rfl, show (0 : Nat) = 3 * 0 from rfl, fo_3 (fun i => if ι (400 + r) i = x ∧ ι (600 + r) i = sLeast (ι 53) (ι 56) r 9 then 1 else 0) 9 0 0]
  refine fo_congr _ _ _ (fun m a h1 h3 => fo_congr _ _ _ (fun c a h4 h5 => ?_))
  congr 1
  unfold sBl1
  obtain ⟨-, g2, g3⟩ := lfs m (by omega)
  obtain ⟨e1, e2⟩ := g3 c (by omega)
  rw [← e1, ← e2]
  have hm := hmin m (by omega)
  have h3le := imin3_le (ι (600 + r) (3 * m)) (ι (600 + r) (3 * m + 1)) (ι (600 + r) (3 * m + 2))
  rw [← hsm m (by omega)] at h3le
  have hc : ι 53 (sSm (ι 56) r m) ≤ ι (600 + r) (3 * m + c) := by
    rcases (by omega : c = 0 ∨ c = 1 ∨ c = 2) with q | q | q <;> subst q
    · exact h3le.1
    · exact h3le.2.1
    · exact h3le.2.2
  by_cases q : ι (400 + r) (3 * m + c) = x ∧ ι (600 + r) (3 * m + c) = sLeast (ι 53) (ι 56) r 9
  · rw [if_pos q, if_pos ⟨Int32.le_antisymm (by rw [← q.2]; exact hc) hm, q⟩]
  · rw [if_neg q, if_neg (fun g => q g.2)]
theorem cTwo_0a {i h : Int32} {nb nh : Nat} (hc : cTwo i (nI nb) h (nI nh) = 0) (h1 : nb < 1000000) (h2 : nh < 1000000) : i.toNatClampNeg < nb := (cTwo_0 hc h1 h2).1
theorem o_blame {k : Nat} {ι : gIm} {ρ : gRm} {Λ : gLm} {yr wk nh nr nb ns np ch : Nat} (h : Inv8 k ι ρ Λ yr wk nh nr nb ns np ch) (i x : Int32) : Both k 4 3 0 0 jX11_blame jX12_blame [vI i, vI x] ι ρ Λ := by
  obtain ⟨a1, a2, a3, a4, a5, a6, a7, a8, a9, b1, b2, b3, b4⟩ := id h
  have q1 : nh ≤ 24 := a4.2.2.1
  have q2 : nr ≤ 200 := a5.2.2.1
  have q3 : nb ≤ 40 := a8.2.2.1
  have q4 : ns ≤ 12 := a9.2.2.1
  have q5 : np ≤ 30 := b1.2.2.1
  obtain ⟨h1, h2, h3, h4, h5, h6⟩ := id a4
  obtain ⟨n1, n2, n3, n4, n5⟩ := id a5
  obtain ⟨k1, k2, k3, k4⟩ := id a8
  refine both_of (M := fun z => mSmalls z (ι 63 (3 * i.toNatClampNeg)).toNatClampNeg 9) (ρ' := ρ) (Λ' := Λ) h (fun K => by rw [sel_same, sel_same]; exact x_blame K i x ι ρ Λ a1 nh h1 h3 (fun i hi => (h5 i hi).1) nr n3 (fun r hr => (n4 r hr).1.2) (fun r hr => (n4 r hr).2.1) nb k1 q3 (bkO ι) (bk_ok a8)) (fun _ _ _ _ => rfl) (fun K z ρ1 Λ1 hF hz => ?_) (fun hc => ?_)
  · have m := m_blame K i x z ρ1 Λ1 hF nh ((congrFun (hz 40 (by omega) (by omega)) 4).trans h2) h3 nr ((congrFun (hz 40 (by omega) (by omega)) 5).trans n2) n3 nb ((congrFun (hz 40 (by omega) (by omega)) 7).trans k2) q3 (by
      rw [hz 63 (by omega) (by omega), hz 56 (by omega) (by omega)]
      intro i hi
      obtain ⟨u1, u2, u3, u4, u5, -⟩ := k4 i hi
      exact ⟨bkO ι i, u3, u4, fun m hm => (leaf a6 n3 u3 u5 m hm).1⟩)
    rw [hz 53 (by omega) (by omega), hz 56 (by omega) (by omega), hz 57 (by omega) (by omega), hz 63 (by omega) (by omega)] at m
    rw [rs_eq (w := sBlame (ι 53) (ι 56) (ι 57) (ι 63 (3 * i.toNatClampNeg)).toNatClampNeg x) (fun hc => ?_)]
    · exact m
    · have hi := cTwo_0a hc (by omega) (by omega)
      obtain ⟨u1, u2, u3, u4, u5, -⟩ := k4 _ hi
      rw [kd_eq a5 u3, u5, show cn 2 = 27 from by decide]
      exact weak_eq a6 n3 u3 u5 x
  · have e : ∀ d j, ¬ d = 65 → mSmalls ι (ι 63 (3 * i.toNatClampNeg)).toNatClampNeg 9 d j = ι d j := by
      intro d j q
      unfold mSmalls
      rw [va_up_ne _ _ q]
    refine ⟨_, _, _, _, _, _, _, _, ⟨a1, iR_fr a2 (fun d i g => e d i (by unfold dR at g; omega)), iS_fr a3 (fun d i g => e d i (by unfold dS at g; omega)), iH_fr a4 (fun d i g => e d i (by unfold dH at g; omega)) (fun _ _ => rfl), iN_fr a5 (fun d i g => e d i (by unfold dN at g; omega)) (fun _ _ => ⟨rfl, rfl⟩) (fun _ _ => ⟨rfl, rfl⟩), iL_fr a6 (fun d i g => e d i (by unfold dL at g; omega)), iB_fr a7 (fun d i g => e d i (by unfold dB at g; omega)) (fun _ _ => rfl), iK_fr a8 (fun d i g => e d i (by unfold dK at g; omega)) (fun _ _ => ⟨rfl, rfl⟩), iW_fr a9 (fun d i g => e d i (by unfold dW at g; omega)), iP_fr b1 (fun d i g => e d i (by unfold dP at g; omega)), iQ_fr b2 (fun d i g => e d i (by unfold dQ at g; omega)), b3, by omega⟩⟩
