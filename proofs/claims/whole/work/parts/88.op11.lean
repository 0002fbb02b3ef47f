/-! calls of both: weeks -/
def Inv9 (ι : gIm) (ρ : gRm) (Λ : gLm) (yr wk wb nh nr nb ns np ch : Nat) : Prop := gFix ρ Λ ∧ iR ι ∧ iS ι yr wk ∧ iH ι ρ nh ∧ iN ι ρ Λ nr ∧ iL ι nr ∧ iB ι ρ yr wb nr ∧ iK ι ρ nr nb ∧ iW ι ns ch ∧ iP ι np ∧ iQ ι ns ch ∧ iF Λ nh nr nb
theorem go_step {ι : gIm} {ρ : gRm} {Λ : gLm} {yr wk wb nh nr nb ns np ch : Nat} (h : Inv9 ι ρ Λ yr wk wb nh nr nb ns np ch) {y r : Nat} (hy : y < 6) (hr : r < nr) (eh : ι 59 y = nI r) : Inv9 (mGone (up2 ι (200 + r) 8 (-9)) y) (up2 ρ 10 y none) Λ yr wk wb nh nr nb ns np ch := by
  obtain ⟨a1, a2, a3, a4, a5, a6, a7, a8, a9, b1, b2, b3⟩ := id h
  have q1 : nh ≤ 24 := a4.2.2.1
  have q2 : nr ≤ 200 := a5.2.2.1
  have q3 : nb ≤ 40 := a8.2.2.1
  have q4 : ns ≤ 12 := a9.2.2.1
  have q5 : np ≤ 30 := b1.2.2.1
  obtain ⟨n1, n2, n3, n4, n5⟩ := id a5
  have w : ∀ d j, mGone (up2 ι (200 + r) 8 (-9)) y d j = if d = 55 ∧ j = r then -9 else if d = 59 ∧ j = y then -9 else if d = 200 + r ∧ j = 8 then -9 else ι d j := by
    intro d j
    unfold mGone
    rw [show up2 ι (200 + r) 8 (-9) 59 = ι 59 from up2_ne _ _ _ (by omega), eh, nI_cl1 (by omega)]
    simp only [up2_get]
  generalize mGone (up2 ι (200 + r) 8 (-9)) y = z at *
  have e : ∀ d j, ¬ ((d = 55 ∧ j = r) ∨ (d = 59 ∧ j = y) ∨ (d = 200 + r ∧ j = 8)) → z d j = ι d j := by
    intro d j q
    rw [w, if_neg (by omega), if_neg (by omega), if_neg (by omega)]
  have er : ∀ d j, ¬ (d = 10 ∧ j = y) → up2 ρ 10 y none d j = ρ d j := by
    intro d j q
    rw [up2_get, if_neg q]
  refine ⟨gFix_up a1 (gst_arr (by decide)) rfl, iR_fr a2 (fun d i g => e d i (by unfold dR at g; omega)), iS_fr a3 (fun d i g => e d i (by unfold dS at g; omega)), iH_fr a4 (fun d i g => e d i (by unfold dH at g; omega)) (fun i g => er 5 i (by omega)), ?_, iL_fr a6 (fun d i g => e d i (by unfold dL at g; omega)), ?_, iK_fr a8 (fun d i g => e d i (by unfold dK at g; omega)) (fun i g => ⟨er 15 i (by omega), by funext j; exact er (800 + i) j (by omega)⟩), iW_fr a9 (fun d i g => e d i (by unfold dW at g; omega)), iP_fr b1 (fun d i g => e d i (by unfold dP at g; omega)), iQ_fr b2 (fun d i g => e d i (by unfold dQ at g; omega)), b3⟩
  · refine ⟨?_, ?_, n3, fun s hs => ?_, fun s g1 g2 => ?_⟩
    · rw [e _ _ (by omega)]; exact n1
    · rw [e _ _ (by omega)]; exact n2
    · by_cases q : s = r
      · subst q
        obtain ⟨u1, u2, ⟨u3, u4, u5, u6, u7⟩, u8⟩ := n4 s hs
        unfold iN1
        rw [e (200 + s) 0 (by omega), e (200 + s) 1 (by omega), e (200 + s) 2 (by omega), e (200 + s) 3 (by omega), e (200 + s) 6 (by omega), e (200 + s) 7 (by omega), e 52 _ (by omega), e 53 _ (by omega), e 54 _ (by omega), e 58 _ (by omega), er 8 _ (by omega), er (200 + s) _ (by omega), er (200 + s) _ (by omega), w (200 + s) 8, if_neg (by omega), if_neg (by omega), if_pos ⟨rfl, rfl⟩, w 55 s, if_pos ⟨rfl, rfl⟩]
        exact ⟨u1, u2, ⟨u3, u4, u5, u6, rfl⟩, u8⟩
      · exact iN1_fr (n4 s hs) (fun d i g => e d i (by unfold dN1 at g; omega)) ⟨er 8 s (by omega), by funext i; exact er _ i (by omega)⟩ ⟨rfl, rfl⟩
    · rw [e _ _ (by omega)]; exact n5 s g1 g2
  · intro p hp2
    by_cases q : p = y
    · subst q
      obtain ⟨g1, ⟨g2, g3, g4⟩, g5⟩ := a7 p hp2
      have e10 : up2 ρ 10 p none 10 p = none := by rw [up2_get, if_pos ⟨rfl, rfl⟩]
      unfold iB1 spo
      rw [e10, e 11 _ (by omega), e 12 _ (by omega), e 13 _ (by omega), e 60 _ (by omega), e 61 _ (by omega), e 62 _ (by omega), w 59 p, if_neg (by omega), if_pos ⟨rfl, rfl⟩]
      exact ⟨fun d hd => (by cases hd), ⟨rfl, g3, g4⟩, g5⟩
    · exact iB1_fr (a7 p hp2) (fun d i g => e d i (by unfold dB1 at g; omega)) (er 10 p (by omega))
/-- both write a break down -/
def kpX (ι : gIm) (nb : Nat) : gIm := up2 (up2 (up2 (va_up ι (800 + nb) (fun _ => 0)) (800 + nb) 1 (ι 2 0)) (800 + nb) 2 (ι 2 1)) 14 1 (nI nb + 1)
def kpM (z ι : gIm) (nb r : Nat) : gIm := up2 (up2 (up2 (up2 z 63 (3 * nb) (nI r)) 63 (3 * nb + 1) (ι 40 2)) 63 (3 * nb + 2) (ι 40 3)) 40 7 (nI nb + 1)
theorem kp_get (ι : gIm) (nb r d j : Nat) (hb : nb < 40) : kpM (kpX ι nb) ι nb r d j = if d = 40 ∧ j = 7 then nI nb + 1 else if d = 63 ∧ j = 3 * nb + 2 then ι 40 3 else if d = 63 ∧ j = 3 * nb + 1 then ι 40 2 else if d = 63 ∧ j = 3 * nb then nI r else
    if d = 14 ∧ j = 1 then nI nb + 1 else if d = 800 + nb ∧ j = 2 then ι 2 1 else if d = 800 + nb ∧ j = 1 then ι 2 0 else if d = 800 + nb then 0 else ι d j := by
  unfold kpM kpX
  simp only [up2_get, va_up2_get]
theorem kp_step {ι : gIm} {ρ : gRm} {Λ : gLm} {yr wk wb nh nr nb ns np ch : Nat} (h : Inv9 ι ρ Λ yr wk wb nh nr nb ns np ch) {r : Nat} (hb : nb < 40) (hr : r < nr) (ek : ι 52 r = 2) : Inv9 (kpM (kpX ι nb) ι nb r) (up2 (up2 (va_up ρ (800 + nb) (fun _ => none)) (800 + nb) 0 (some (200 + r))) 15 nb (some (800 + nb))) (Λ.1 ++ [800 + nb], va_up Λ.2 (800 + nb) 0) yr wk wb nh nr (nb + 1) ns np ch := by
  obtain ⟨a1, a2, a3, a4, a5, a6, a7, a8, a9, b1, b2, b3⟩ := id h
  have q1 : nh ≤ 24 := a4.2.2.1
  have q2 : nr ≤ 200 := a5.2.2.1
  have q3 : nb ≤ 40 := a8.2.2.1
  have q4 : ns ≤ 12 := a9.2.2.1
  have q5 : np ≤ 30 := b1.2.2.1
  obtain ⟨s1, s2, s3, s4, s5, s6, s7⟩ := id a3
  obtain ⟨k1, k2, k3, k4⟩ := id a8
  have w := fun d j => kp_get ι nb r d j hb
  generalize kpM (kpX ι nb) ι nb r = z at *
  have e : ∀ d j, ¬ ((d = 40 ∧ j = 7) ∨ (d = 63 ∧ 3 * nb ≤ j ∧ j ≤ 3 * nb + 2) ∨ (d = 14 ∧ j = 1) ∨ d = 800 + nb) → z d j = ι d j := by
    intro d j q
    rw [w, if_neg (by omega), if_neg (by omega), if_neg (by omega), if_neg (by omega), if_neg (by omega), if_neg (by omega), if_neg (by omega), if_neg (by omega)]
  have wr : ∀ d j, up2 (up2 (va_up ρ (800 + nb) (fun _ => none)) (800 + nb) 0 (some (200 + r))) 15 nb (some (800 + nb)) d j = if d = 15 ∧ j = nb then some (800 + nb) else if d = 800 + nb ∧ j = 0 then some (200 + r) else if d = 800 + nb then none else ρ d j := by
    intro d j
    simp only [up2_get, va_up2_get]
  have hfx : gFix (up2 (up2 (va_up ρ (800 + nb) (fun _ => none)) (800 + nb) 0 (some (200 + r))) 15 nb (some (800 + nb))) (Λ.1 ++ [800 + nb], va_up Λ.2 (800 + nb) 0) := gFix_up (gFix_up (gFix_new (c := 800 + nb) (n := 0) a1 (by omega) rfl rfl) (gst_none (by omega)) rfl) (gst_arr (by decide)) rfl
  generalize up2 (up2 (va_up ρ (800 + nb) (fun _ => none)) (800 + nb) 0 (some (200 + r))) 15 nb (some (800 + nb)) = ρ' at *
  have er : ∀ d j, ¬ ((d = 15 ∧ j = nb) ∨ d = 800 + nb) → ρ' d j = ρ d j := by
    intro d j q
    rw [wr, if_neg (by omega), if_neg (by omega), if_neg (by omega)]
  have el : ∀ d, ¬ d = 800 + nb → va_up Λ.2 (800 + nb) 0 d = Λ.2 d := fun d q => va_up_ne _ _ q
  refine ⟨hfx, iR_fr a2 (fun d i g => e d i (by unfold dR at g; omega)), iS_fr a3 (fun d i g => e d i (by unfold dS at g; omega)), iH_fr a4 (fun d i g => e d i (by unfold dH at g; omega)) (fun i g => er 5 i (by omega)), iN_fr a5 (fun d i g => e d i (by unfold dN at g; omega)) (fun r g => ⟨er 8 r (by omega), by funext i; exact er (200 + r) i (by omega)⟩) (fun r g => ⟨el (400 + r) (by omega), el (600 + r) (by omega)⟩), iL_fr a6 (fun d i g => e d i (by unfold dL at g; omega)), iB_fr a7 (fun d i g => e d i (by unfold dB at g; omega)) (fun p g => er 10 p (by omega)), ?_, iW_fr a9 (fun d i g => e d i (by unfold dW at g; omega)), iP_fr b1 (fun d i g => e d i (by unfold dP at g; omega)), iQ_fr b2 (fun d i g => e d i (by unfold dQ at g; omega)), ?_⟩
  · refine ⟨?_, ?_, by omega, fun i hi => ?_⟩
    · rw [w, if_neg (by omega), if_neg (by omega), if_neg (by omega), if_neg (by omega), if_pos ⟨rfl, rfl⟩, nI_succ]
    · rw [w, if_pos ⟨rfl, rfl⟩, nI_succ]
    · by_cases q : i < nb
      · exact iK1_fr (k4 i q) (fun d i g => e d i (by unfold dK1 at g; omega)) ⟨er 15 i (by omega), by funext j; exact er _ j (by omega)⟩
      · have q2 : i = nb := by omega
        subst q2
        have z63 : z 63 (3 * i) = nI r := by rw [w, if_neg (by omega), if_neg (by omega), if_neg (by omega), if_pos ⟨rfl, rfl⟩]
        have eb : bkO z i = r := by unfold bkO; rw [z63, nI_cl1 (by omega)]
        unfold iK1
        rw [eb, z63, e 52 r (by omega), wr 15 i, if_pos ⟨rfl, rfl⟩, wr (800 + i) 0, if_neg (by omega), if_pos ⟨rfl, rfl⟩, w (800 + i) 1, if_neg (by omega), if_neg (by omega), if_neg (by omega), if_neg (by omega), if_neg (by omega), if_neg (by omega), if_pos ⟨rfl, rfl⟩, w (800 + i) 2, if_neg (by omega), if_neg (by omega), if_neg (by omega), if_neg (by omega), if_neg (by omega), if_pos ⟨rfl, rfl⟩, w 63 (3 * i + 1), if_neg (by omega), if_neg (by omega), if_pos ⟨rfl, rfl⟩, w 63 (3 * i + 2), if_neg (by omega), if_pos ⟨rfl, rfl⟩]
        exact ⟨rfl, rfl, hr, rfl, ek, s1.trans s2.symm, s4.trans s5.symm⟩
  · obtain ⟨f1, f2, f3⟩ := b3
    have hh : ∀ d, ¬ d = 800 + nb → d ∉ Λ.1 → d ∉ (Λ.1 ++ [800 + nb], va_up Λ.2 (800 + nb) 0).1 := by
      intro d g1 g2 g3
      rcases List.mem_append.mp g3 with g | g
      · exact g2 g
      · exact g1 (List.mem_singleton.mp g)
    exact ⟨fun i g4 g5 => hh _ (by omega) (f1 i g4 g5), fun r g4 g5 => ⟨hh _ (by omega) (f2 r g4 g5).1, hh _ (by omega) (f2 r g4 g5).2.1, hh _ (by omega) (f2 r g4 g5).2.2⟩, fun i g4 g5 => hh _ (by omega) (f3 i (by omega) g5)⟩
theorem brk_step {ι : gIm} {ρ : gRm} {Λ : gLm} {yr wk wb nh nr nb ns np ch : Nat} (h : Inv9 ι ρ Λ yr wk wb nh nr nb ns np ch) {p : Nat} (hp : p < 6) : ∃ nb', Inv9 (mBr p (xWk1 p (ι, ρ, Λ)).1) (xWk1 p (ι, ρ, Λ)).2.1 (xWk1 p (ι, ρ, Λ)).2.2 yr wk wb nh nr nb' ns np ch := by
  obtain ⟨a1, a2, a3, a4, a5, a6, a7, a8, a9, b1, b2, b3⟩ := id h
  have q1 : nh ≤ 24 := a4.2.2.1
  have q2 : nr ≤ 200 := a5.2.2.1
  have q3 : nb ≤ 40 := a8.2.2.1
  have q4 : ns ≤ 12 := a9.2.2.1
  have q5 : np ≤ 30 := b1.2.2.1
  obtain ⟨s1, s2, s3, s4, s5, s6, s7⟩ := id a3
  obtain ⟨k1, k2, k3, k4⟩ := id a8
  have hst : sStX ι (spo ρ) (ι 2 0) 0 p = sStg ι 0 p := st_eq a7 a3 a5 hp 0
  have hsn := sn_iff a7 q2 hp
  unfold xWk1
  dsimp only
  rw [hst]
  by_cases hc : spo ρ p ≠ none ∧ sStg ι 0 p = 0
  · rw [if_pos hc]
    rcases B_case a7 hp with ⟨es, e⟩ | ⟨r, hr, es, ed, eh, ek⟩
    · exact absurd es hc.1
    · rw [es, Option.getD_some]
      dsimp only
      have enb : nbo ι = nb := by unfold nbo; rw [k1, nI_cl1 (by omega)]
      rw [enb]
      have g := go_step h hp hr eh
      have zm : ∀ d, 40 ≤ d → d < 77 → xKeepI (up2 ι (200 + r) 8 (-9)) nb (ι 2 0) (ι 2 1) d = ι d := by
        intro d g1 g2
        unfold xKeepI
        split
        · exact up2_ne _ _ _ (by omega)
        · rw [up2_ne _ _ _ (by omega), up2_ne _ _ _ (by omega), up2_ne _ _ _ (by omega), va_up_ne _ _ (by omega), up2_ne _ _ _ (by omega)]
      have hbr : mBr p (xKeepI (up2 ι (200 + r) 8 (-9)) nb (ι 2 0) (ι 2 1)) = mBreak p (xKeepI (up2 ι (200 + r) 8 (-9)) nb (ι 2 0) (ι 2 1)) := by
        unfold mBr
        rw [sStg_z zm, zm 59 (by omega) (by omega), if_pos ⟨fun q => hc.1 (hsn.mpr q), hc.2⟩]
      rw [hbr]
      unfold mBreak
      rw [zm 40 (by omega) (by omega), k2, zm 59 (by omega) (by omega), eh, nI_cl1 (by omega)]
      by_cases h40 : nb = 40
      · rw [if_pos (by rw [h40]; rfl)]
        unfold xKeepI xKeepR xKeepL
        rw [if_pos h40, if_pos h40, if_pos h40]
        exact ⟨nb, g⟩
      · have hne : ¬ nI nb = 40 := fun q => h40 ((nI_eq (a := nb) (b := 40) (by omega) (by omega)).mp q)
        rw [if_neg hne]
        have hb : nb < 40 := by omega
        refine ⟨nb + 1, ?_⟩
        have gk := kp_step g (r := r) hb hr (by
          unfold mGone
          rw [up2_ne _ _ _ (by decide), up2_ne _ _ _ (by decide), up2_ne _ _ _ (by omega)]
          exact ek)
        unfold xKeepR xKeepL
        rw [if_neg h40, if_neg h40]
        have em : up2 (up2 (up2 (up2 (mGone (xKeepI (up2 ι (200 + r) 8 (-9)) nb (ι 2 0) (ι 2 1)) p) 63 (3 * nb) (nI r)) 63 (3 * nb + 1) (ι 40 2)) 63 (3 * nb + 2) (ι 40 3)) 40 7 (nI nb + 1) = kpM (kpX (mGone (up2 ι (200 + r) 8 (-9)) p) nb) (mGone (up2 ι (200 + r) 8 (-9)) p) nb r := by
          have x2 : ∀ j, mGone (up2 ι (200 + r) 8 (-9)) p 2 j = ι 2 j := by
            intro j
            unfold mGone
            rw [up2_ne _ _ _ (by decide), up2_ne _ _ _ (by decide), up2_ne _ _ _ (by omega)]
          have x40 : ∀ j, mGone (up2 ι (200 + r) 8 (-9)) p 40 j = ι 40 j := by
            intro j
            unfold mGone
            rw [up2_ne _ _ _ (by decide), up2_ne _ _ _ (by decide), up2_ne _ _ _ (by omega)]
          unfold kpM kpX
          rw [x40, x40, x2, x2]
          congr 4
          unfold xKeepI
          rw [if_neg h40]
          unfold mGone
          rw [show up2 (up2 (up2 (va_up (up2 ι (200 + r) 8 (-9)) (800 + nb) (fun _ => 0)) (800 + nb) 1 (ι 2 0)) (800 + nb) 2 (ι 2 1)) 14 1 (nI nb + 1) 59 = ι 59 from by rw [up2_ne _ _ _ (by omega), up2_ne _ _ _ (by omega), up2_ne _ _ _ (by omega), va_up_ne _ _ (by omega), up2_ne _ _ _ (by omega)], show up2 ι (200 + r) 8 (-9) 59 = ι 59 from up2_ne _ _ _ (by omega)]
          rw [up2_comm (c := 14) (d := 59) (by decide), up2_comm (c := 14) (d := 55) (by decide), up2_comm (c := 800 + nb) (d := 59) (by omega), up2_comm (c := 800 + nb) (d := 59) (by omega), up2_comm (c := 800 + nb) (d := 55) (by omega), up2_comm (c := 800 + nb) (d := 55) (by omega)]
          congr 3
          funext d j
          simp only [up2_get, va_up2_get]
          grind
        rw [em]
        exact gk
  · rw [if_neg hc]
    refine ⟨nb, ?_⟩
    have : mBr p ι = ι := by
      unfold mBr
      rw [if_neg (fun q => hc ⟨fun q2 => q.1 (hsn.mp q2), q.2⟩)]
    dsimp only
    rw [this]
    exact h

theorem brk_all {yr wk wb nh nr ns np ch : Nat} : ∀ n i nb (M : gMm), i + n = 6 → Inv9 M.1 M.2.1 M.2.2 yr wk wb nh nr nb ns np ch → ∃ nb', Inv9 (fo mBr n i (fo xWk1 n i M).1) (fo xWk1 n i M).2.1 (fo xWk1 n i M).2.2 yr wk wb nh nr nb' ns np ch := by
  intro n
  induction n with
  | zero => intro i nb M _ h; exact ⟨nb, h⟩
  | succ n ih =>
    intro i nb M hi h
    obtain ⟨nb1, h1⟩ := brk_step h (p := i) (by omega)
    obtain ⟨nb2, h2⟩ := ih (i + 1) nb1 (mBr i (xWk1 i M).1, (xWk1 i M).2) (by omega) h1
    rw [cls_mod (clsF_fo xWk1_clsF n (i + 1)) (mBr_modF i) (xWk1 i M)] at h2
    rw [fo_s, fo_s]
    exact ⟨nb2, h2⟩
theorem soak_step {ι : gIm} {ρ : gRm} {Λ : gLm} {yr wk nh nr nb ns np ch : Nat} (h : Inv9 ι ρ Λ yr wk wk nh nr nb ns np ch) (hw : wk < 52) : Inv9 (mSkW (xSk (ι, ρ, Λ)).1) ρ Λ yr wk (wk + 1) nh nr nb ns np ch := by
  obtain ⟨a1, a2, a3, a4, a5, a6, a7, a8, a9, b1, b2, b3⟩ := id h
  have q1 : nh ≤ 24 := a4.2.2.1
  have q2 : nr ≤ 200 := a5.2.2.1
  have q3 : nb ≤ 40 := a8.2.2.1
  have q4 : ns ≤ 12 := a9.2.2.1
  have q5 : np ≤ 30 := b1.2.2.1
  obtain ⟨s1, s2, s3, s4, s5, s6, s7⟩ := id a3
  have hwt : sWet (ι 42) (ι 40 3).toNatClampNeg = sWet (ι 3) (ι 2 1).toNatClampNeg := by
    rw [s4, s5, nI_cl1 (by omega)]
    exact (sWet_congr (fun j hj => (s7 j hj).1) hw).symm
  have hle := sWet_le (f := ι 3) (fun j hj => (s7 j hj).2) hw
  have hg : ∀ d j, mSkW (xSk (ι, ρ, Λ)).1 d j = if (d = 12 ∨ d = 61) ∧ j < 6 then ι d j + sWet (ι 3) wk else ι d j := by
    intro d j
    unfold mSkW xSk xSoak
    dsimp only
    rw [va_up_ne _ _ (show 42 ≠ 12 by decide), va_up_ne _ _ (show 40 ≠ 12 by decide), hwt, s4, nI_cl1 (by omega)]
    unfold mSk
    simp only [va_up2_get, fil]
    by_cases h1 : d = 61
    · subst h1
      rw [if_pos rfl]
      by_cases h2 : j < 6
      · rw [if_pos h2, if_neg (by decide), if_pos ⟨Or.inr rfl, h2⟩]
      · rw [if_neg h2, if_neg (by decide), if_neg (fun q => h2 q.2)]
    · rw [if_neg h1]
      by_cases h3 : d = 12
      · subst h3
        rw [if_pos rfl]
        by_cases h2 : j < 6
        · rw [if_pos h2, if_pos ⟨Or.inl rfl, h2⟩]
        · rw [if_neg h2, if_neg (fun q => h2 q.2)]
      · rw [if_neg h3, if_neg (by omega)]
  generalize mSkW (xSk (ι, ρ, Λ)).1 = z at *
  have e : ∀ d j, ¬ ((d = 12 ∨ d = 61) ∧ j < 6) → z d j = ι d j := fun d j q => by rw [hg, if_neg q]
  refine ⟨a1, iR_fr a2 (fun d i g => e d i (by unfold dR at g; omega)), iS_fr a3 (fun d i g => e d i (by unfold dS at g; omega)), iH_fr a4 (fun d i g => e d i (by unfold dH at g; omega)) (fun _ _ => rfl), iN_fr a5 (fun d i g => e d i (by unfold dN at g; omega)) (fun _ _ => ⟨rfl, rfl⟩) (fun _ _ => ⟨rfl, rfl⟩), iL_fr a6 (fun d i g => e d i (by unfold dL at g; omega)), ?_, iK_fr a8 (fun d i g => e d i (by unfold dK at g; omega)) (fun _ _ => ⟨rfl, rfl⟩), iW_fr a9 (fun d i g => e d i (by unfold dW at g; omega)), iP_fr b1 (fun d i g => e d i (by unfold dP at g; omega)), iQ_fr b2 (fun d i g => e d i (by unfold dQ at g; omega)), b3⟩
  intro p hp
  obtain ⟨u1, ⟨u2, u3, u4⟩, ⟨w, u5, u6⟩, u7⟩ := a7 p hp
  obtain ⟨v, v1, v2⟩ := nI_of2 (x := sWet (ι 3) wk) (M := 18) (n := 18) rfl (by grind) hle.2
  unfold iB1
  rw [e 11 _ (by omega), e 13 _ (by omega), e 59 _ (by omega), e 60 _ (by omega), e 62 _ (by omega), hg 12, if_pos ⟨Or.inl rfl, hp⟩, hg 61, if_pos ⟨Or.inr rfl, hp⟩]
  refine ⟨fun d hd => ?_, ⟨u2, u3, by rw [u4]⟩, ⟨w + v, by rw [u5, v2, nI_add], by omega⟩, u7⟩
  rw [e 52 _ (by omega)]
  exact u1 d hd
def xBump (M : gMm) : gMm := (up2 M.1 2 1 (M.1 2 1 + 1), M.2)
theorem xBump_clsF : clsF xBump := by
  intro x z ρ Λ
  unfold xBump
  dsimp only
  rw [comb_x (by omega), up_comb_x (by omega)]
theorem xWk_eq (M : gMm) : xWk M = xBump (fo xWk1 6 0 (xSk M)) := by
  unfold xWk xBump xWkP
  rfl
theorem bump_step {ι : gIm} {ρ : gRm} {Λ : gLm} {yr wk nh nr nb ns np ch : Nat} (h : Inv9 ι ρ Λ yr wk (wk + 1) nh nr nb ns np ch) (hw : wk < 52) : Inv9 (mBump (xBump (ι, ρ, Λ)).1) ρ Λ yr (wk + 1) (wk + 1) nh nr nb ns np ch := by
  obtain ⟨a1, a2, a3, a4, a5, a6, a7, a8, a9, b1, b2, b3⟩ := id h
  have q1 : nh ≤ 24 := a4.2.2.1
  have q2 : nr ≤ 200 := a5.2.2.1
  have q3 : nb ≤ 40 := a8.2.2.1
  have q4 : ns ≤ 12 := a9.2.2.1
  have q5 : np ≤ 30 := b1.2.2.1
  obtain ⟨s1, s2, s3, s4, s5, s6, s7⟩ := id a3
  have hg : ∀ d j, mBump (xBump (ι, ρ, Λ)).1 d j = if d = 40 ∧ j = 3 then nI (wk + 1) else if d = 2 ∧ j = 1 then nI (wk + 1) else ι d j := by
    intro d j
    unfold mBump xBump
    dsimp only
    rw [show up2 ι 2 1 (ι 2 1 + 1) 40 = ι 40 from up2_ne _ _ _ (by decide), s4, s5, nI_1]
    simp only [up2_get]
  generalize mBump (xBump (ι, ρ, Λ)).1 = z at *
  have e : ∀ d j, ¬ ((d = 40 ∧ j = 3) ∨ (d = 2 ∧ j = 1)) → z d j = ι d j := fun d j q => by rw [hg, if_neg (by omega), if_neg (by omega)]
  refine ⟨a1, iR_fr a2 (fun d i g => e d i (by unfold dR at g; omega)), ?_, iH_fr a4 (fun d i g => e d i (by unfold dH at g; omega)) (fun _ _ => rfl), iN_fr a5 (fun d i g => e d i (by unfold dN at g; omega)) (fun _ _ => ⟨rfl, rfl⟩) (fun _ _ => ⟨rfl, rfl⟩), iL_fr a6 (fun d i g => e d i (by unfold dL at g; omega)), iB_fr a7 (fun d i g => e d i (by unfold dB at g; omega)) (fun _ _ => rfl), iK_fr a8 (fun d i g => e d i (by unfold dK at g; omega)) (fun _ _ => ⟨rfl, rfl⟩), iW_fr a9 (fun d i g => e d i (by unfold dW at g; omega)), iP_fr b1 (fun d i g => e d i (by unfold dP at g; omega)), iQ_fr b2 (fun d i g => e d i (by unfold dQ at g; omega)), b3⟩
  refine ⟨?_, ?_, s3, ?_, ?_, by omega, fun j hj => ?_⟩
  · rw [e _ _ (by omega)]; exact s1
  · rw [e _ _ (by omega)]; exact s2
  · rw [hg, if_neg (by omega), if_pos ⟨rfl, rfl⟩]
  · rw [hg, if_pos ⟨rfl, rfl⟩]
  · rw [e _ _ (by omega), e _ _ (by omega)]; exact s7 j hj
theorem wk_abs (XP : gMm → gMm) (MP : gIm → gIm) (hX : clsF XP) (hM : modF MP) {ι : gIm} {ρ : gRm} {Λ : gLm} {yr wk nh nr nb ns np ch : Nat} (h : Inv9 ι ρ Λ yr wk wk nh nr nb ns np ch) (hw : wk < 52) (hb : ∀ ι ρ Λ, Inv9 ι ρ Λ yr wk (wk + 1) nh nr nb ns np ch → ∃ nb', Inv9 (MP (XP (ι, ρ, Λ)).1) (XP (ι, ρ, Λ)).2.1 (XP (ι, ρ, Λ)).2.2 yr wk (wk + 1) nh nr nb' ns np ch) : ∃ nb', Inv9 (mBump (MP (mSkW (xBump (XP (xSk (ι, ρ, Λ)))).1))) (xBump (XP (xSk (ι, ρ, Λ)))).2.1 (xBump (XP (xSk (ι, ρ, Λ)))).2.2 yr (wk + 1) (wk + 1) nh nr nb' ns np ch := by
  have h1 := soak_step h hw
  obtain ⟨nb1, h2⟩ := hb _ _ _ h1
  generalize hs : (xSk (ι, ρ, Λ)).1 = s1 at *
  have hs2 : xSk (ι, ρ, Λ) = (s1, ρ, Λ) := by rw [← hs]; rfl
  rw [hs2]
  have c1 : XP (mSkW s1, ρ, Λ) = (mSkW (XP (s1, ρ, Λ)).1, (XP (s1, ρ, Λ)).2) := cls_mod hX mSkW_modF (s1, ρ, Λ)
  rw [c1] at h2
  rcases hN : XP (s1, ρ, Λ) with ⟨x, ρ', Λ'⟩
  rw [hN] at h2
  dsimp only at h2
  have h3 := bump_step h2 hw
  have c2 : xBump (MP (mSkW x), ρ', Λ') = (MP (mSkW (xBump (x, ρ', Λ')).1), (xBump (x, ρ', Λ')).2) := cls_mod (Y := fun z => MP (mSkW z)) xBump_clsF (modF_comp mSkW_modF hM) (x, ρ', Λ')
  rw [c2] at h3
  exact ⟨nb1, h3⟩
theorem wk_step {M : gMm} {yr wk nh nr nb ns np ch : Nat} (h : Inv9 M.1 M.2.1 M.2.2 yr wk wk nh nr nb ns np ch) (hw : wk < 52) : ∃ nb', Inv9 (mWk (xWk M).1) (xWk M).2.1 (xWk M).2.2 yr (wk + 1) (wk + 1) nh nr nb' ns np ch := by
  obtain ⟨ι, ρ, Λ⟩ := M
  rw [xWk_eq, mWk_eq]
  exact wk_abs (fo xWk1 6 0) (fo mBr 6 0) (clsF_fo xWk1_clsF 6 0) (modF_fo mBr_modF 6 0) h hw (fun ι ρ Λ h => brk_all 6 0 nb (ι, ρ, Λ) (by omega) h)
theorem wks_step {yr nh nr ns np ch : Nat} : ∀ n wk nb (M : gMm), Inv9 M.1 M.2.1 M.2.2 yr wk wk nh nr nb ns np ch → wk + n ≤ 52 → ∃ nb', Inv9 (mWks n (xWks n M).1) (xWks n M).2.1 (xWks n M).2.2 yr (wk + n) (wk + n) nh nr nb' ns np ch := by
  have g : ∀ n i wk nb (M : gMm), Inv9 M.1 M.2.1 M.2.2 yr wk wk nh nr nb ns np ch → wk + n ≤ 52 → ∃ nb', Inv9 (fo (fun _ z => mWk z) n i (fo (fun _ M => xWk M) n i M).1) (fo (fun _ M => xWk M) n i M).2.1 (fo (fun _ M => xWk M) n i M).2.2 yr (wk + n) (wk + n) nh nr nb' ns np ch := by
    intro n
    induction n with
    | zero => intro i wk nb M h _; exact ⟨nb, h⟩
    | succ n ih =>
      intro i wk nb M h hw
      obtain ⟨nb1, h1⟩ := wk_step h (by omega)
      obtain ⟨nb2, h2⟩ := ih (i + 1) (wk + 1) nb1 (mWk (xWk M).1, (xWk M).2) h1 (by omega)
      rw [cls_mod (X := fo (fun _ M => xWk M) n (i + 1)) (clsF_fo (fun _ => xWk_clsF) n (i + 1)) mWk_modF (xWk M)] at h2
      rw [fo_s, fo_s, show wk + (n + 1) = wk + 1 + n by omega]
      exact ⟨nb2, h2⟩
  exact fun n wk nb M => g n 0 wk nb M
theorem okX_of {k : Nat} {ι : gIm} {ρ : gRm} {Λ : gLm} {yr wk nh nr nb ns np ch : Nat} (h : Inv8 k ι ρ Λ yr wk nh nr nb ns np ch) : okX (ι 2 0) wk (ι 3) (ι, ρ, Λ) := by
  obtain ⟨a1, a2, a3, a4, a5, a6, a7, a8, a9, b1, b2, b3, b4⟩ := id h
  have q1 : nh ≤ 24 := a4.2.2.1
  have q2 : nr ≤ 200 := a5.2.2.1
  have q3 : nb ≤ 40 := a8.2.2.1
  have q4 : ns ≤ 12 := a9.2.2.1
  have q5 : np ≤ 30 := b1.2.2.1
  obtain ⟨s1, s2, s3, s4, s5, s6, s7⟩ := id a3
  obtain ⟨k1, k2, k3, k4⟩ := id a8
  exact ⟨a1, ⟨rfl, s4, rfl⟩, B_rng a7 q2, nb, q3, k1, b3.2.2⟩
theorem clsF_zm {X : gMm → gMm} (hX : clsF X) (M : gMm) : ∀ d, 40 ≤ d → d < 77 → (X M).1 d = M.1 d := by
  intro d g1 g2
  have := hX M.1 M.1 M.2.1 M.2.2
  rw [comb_self] at this
  have h2 : (X M).1 = comb (X M).1 M.1 := congrArg Prod.fst this
  rw [h2, comb_z ⟨g1, g2⟩]
theorem xWks_clsF (n : Nat) : clsF (xWks n) := clsF_fo (fun _ => xWk_clsF) n 0
theorem o_weeks {k : Nat} {ι : gIm} {ρ : gRm} {Λ : gLm} {yr wk nh nr nb ns np ch : Nat} (h : Inv8 k ι ρ Λ yr wk nh nr nb ns np ch) (n : Int32) : Both k 5 4 312 936 jX11_weeks jX12_weeks [vI n] ι ρ Λ := by
  obtain ⟨a1, a2, a3, a4, a5, a6, a7, a8, a9, b1, b2, b3, b4⟩ := id h
  have q1 : nh ≤ 24 := a4.2.2.1
  have q2 : nr ≤ 200 := a5.2.2.1
  have q3 : nb ≤ 40 := a8.2.2.1
  have q4 : ns ≤ 12 := a9.2.2.1
  have q5 : np ≤ 30 := b1.2.2.1
  obtain ⟨s1, s2, s3, s4, s5, s6, s7⟩ := id a3
  obtain ⟨k1, k2, k3, k4⟩ := id a8
  refine both_of (M := mWks n.toNatClampNeg) h (fun K => x_weeks K n ι ρ Λ a1 wk s4 s6 (fun j hj => (s7 j hj).2) (okX_of h)) (fun _ d g1 g2 => clsF_zm (xWks_clsF n.toNatClampNeg) (ι, ρ, Λ) d g1 g2) (fun K z ρ1 Λ1 hF hz => ?_) (fun hc => ?_)
  · exact m_weeks K n z ρ1 Λ1 hF (by rw [hz 59 (by omega) (by omega)]; exact B_hg a7 q2) wk ((congrFun (hz 40 (by omega) (by omega)) 3).trans s5) s6 nb ((congrFun (hz 40 (by omega) (by omega)) 7).trans k2) q3
  · have hn := wr0 hc
    have e52 : (52 : Int32) - nI wk = nI (52 - wk) := nI_sub (a := 52) s6
    rw [e52] at hn
    obtain ⟨m, m1, m2⟩ := nI_of2 (x := n) (M := nI (52 - wk)) (n := 52 - wk) (nI_toInt (by omega)) (by grind) hn.2
    rw [m2, nI_cl1 (by omega)]
    obtain ⟨nb', g1, g2, g3, g4, g5, g6, g7, g8, g9, t1, t2, t3⟩ := wks_step m wk nb (ι, ρ, Λ) ⟨a1, a2, a3, a4, a5, a6, a7, a8, a9, b1, b2, b3⟩ (by omega)
    exact ⟨yr, wk + m, nh, nr, nb', ns, np, ch, g1, g2, g3, g4, g5, g6, g7, g8, g9, t1, t2, t3, by omega⟩
