/-! calls of both: master -/
theorem fo_cong2 {α : Type} {f g : Nat → α → α} (J : Nat → α → Prop) (e : Nat) (hJ : ∀ i a, i < e → J i a → J (i + 1) (f i a)) (hfg : ∀ i a, i < e → J i a → f i a = g i a) : ∀ (n i : Nat) (a : α), i + n = e → J i a → fo f n i a = fo g n i a
  | 0, _, _, _, _ => rfl
  | n + 1, i, a, h, hj => by
    rw [fo_s, fo_s, ← hfg i a (by omega) hj]
    exact fo_cong2 J e hJ hfg n (i + 1) _ (by omega) (hJ i a (by omega) hj)
theorem rk_key {par rk born : Nat → Int32} {np c d q : Nat} (h : okM par rk born np) (hc : c < np) (hd : d < np) (pc : par c = nI q) (pd : par d = nI q) (hq : q < 1000) : rk c < rk d ↔ sBef born (nI c) (nI d) = 1 := by
  have h30 := h.1
  have n1 : ∀ x, par x = nI q → ¬ par x = -1 := fun x hx g => by
    rw [hx] at g
    exact absurd (by rw [g]; decide) (nI_pos (show q < 2 ^ 31 by omega))
  rw [rk_lt h hc hd, sBef_key (by omega) (by omega)]
  unfold rkN bKey
  rw [if_neg (n1 c pc), if_neg (n1 d pd)]
  have := (born_u (h.2 c hc).1).2.2
  have := (born_u (h.2 d hd).1).2.2
  omega
theorem ch_eq {par rk born : Nat → Int32} {np q : Nat} (h : okM par rk born np) (hq : q < 1000) (bh r : Int32) (hb : (bh = -1 ∧ r = -1) ∨ ∃ c, c < np ∧ bh = nI c ∧ r = rk c ∧ par c = nI q) : sChild par born np (nI q) bh = sNx par rk np (nI q) r := by
  have h30 := h.1
  unfold sChild sNx
  refine fo_cong2 (fun i a => a = -9 ∨ ∃ j, j < i ∧ a = nI j ∧ par j = nI q) np (fun i a hi ha => ?_) (fun i a hi ha => ?_) np 0 (-9) (by omega) (Or.inl rfl)
  · unfold sCh1
    split
    · rename_i g; exact Or.inr ⟨i, by omega, rfl, g.1⟩
    · exact ha.imp id (fun ⟨j, j1, j2⟩ => ⟨j, by omega, j2⟩)
  · unfold sCh1 sNx1
    by_cases hp : par i = nI q
    · have e1 : (bh < 0 ∨ sBef born bh (nI i) = 1) ↔ r < rk i := by
        rcases hb with ⟨g1, g2⟩ | ⟨c, c1, c2, c3, c4⟩
        · rw [g1, g2]
          refine ⟨fun _ => ?_, fun _ => Or.inl (by decide)⟩
          rw [(rk_is h hi).1]
          have := (rk_is h hi).2
          exact Int32.lt_of_lt_of_le (show (-1 : Int32) < 0 by decide) (nI_pos' (by omega))
        · rw [c2, c3]
          exact ⟨fun g => g.elim (fun g2 => absurd g2 (nI_pos (by omega))) (fun g2 => (rk_key h c1 hi c4 hp hq).mpr g2), fun g => Or.inr ((rk_key h c1 hi c4 hp hq).mp g)⟩
      have e2 : (a < 0 ∨ sBef born (nI i) a = 1) ↔ (a = -9 ∨ rk i < rk a.toNatClampNeg) := by
        rcases ha with g | ⟨j, j1, j2, j3⟩
        · rw [g]; exact ⟨fun _ => Or.inl rfl, fun _ => Or.inl (by decide)⟩
        · rw [j2, nI_cl1 (by omega)]
          exact ⟨fun g => g.elim (fun g2 => absurd g2 (nI_pos (by omega))) (fun g2 => Or.inr ((rk_key h hi (by omega) hp j3 hq).mpr g2)), fun g => g.elim (fun g2 => absurd g2 (nI_ne9 (by omega))) (fun g2 => Or.inr ((rk_key h hi (by omega) hp j3 hq).mp g2))⟩
      by_cases g : par i = nI q ∧ r < rk i ∧ (a = -9 ∨ rk i < rk a.toNatClampNeg)
      · rw [if_pos g, if_pos ⟨g.1, e1.mpr g.2.1, e2.mpr g.2.2⟩]
      · rw [if_neg g, if_neg (fun g2 => g ⟨g2.1, e1.mp g2.2.1, e2.mp g2.2.2⟩)]
    · rw [if_neg (fun g => hp g.1), if_neg (fun g => hp g.1)]
theorem lwN_stay {par born : Nat → Int32} {np : Nat} {f : Int32 → Int32} {p : Int32} (k : Nat) (nx b : Int32) (h : ¬ (0 ≤ nx ∧ b < 0)) : lwN par born np f p k nx b = b := by
  cases k with
  | zero => rfl
  | succ k => rw [lwN, if_neg h]
theorem lwN_9 {par born : Nat → Int32} {np : Nat} {f : Int32 → Int32} {p : Int32} (hf : ∀ x, f x = -9 ∨ 0 ≤ f x) : ∀ k nx b, (b = -9 ∨ 0 ≤ b) → (lwN par born np f p k nx b = -9 ∨ 0 ≤ lwN par born np f p k nx b)
  | 0, _, _, h => h
  | k + 1, nx, b, h => by
    rw [lwN]
    split
    · exact lwN_9 hf k _ _ (hf nx)
    · exact h
theorem tn_lt (x : Int32) : x.toNatClampNeg < 2 ^ 31 := by
  have := Int32.toInt_lt x
  unfold Int32.toNatClampNeg
  omega
theorem lnN_9 {par born live : Nat → Int32} {np : Nat} {year : Int32} : ∀ m q, q < 2 ^ 31 → (lnN par born live np year m q = -9 ∨ 0 ≤ lnN par born live np year m q)
  | 0, _, _ => Or.inl rfl
  | m + 1, q, hq => by
    rw [lnN]
    split
    · exact Or.inr (nI_pos' (by omega))
    · exact lwN_9 (fun x => lnN_9 m _ (tn_lt x)) _ _ _ (Or.inl rfl)
theorem sBeh_fuel {par rk born : Nat → Int32} {np : Nat} (h : okM par rk born np) : ∀ n m f, f < np → f < n → f < m → sBeh par rk np n (nI f) (-9) = sBeh par rk np m (nI f) (-9)
  | 0, _, _, _, h1, _ => by omega
  | n + 1, 0, _, _, _, h2 => by omega
  | n + 1, m + 1, f, hf, h1, h2 => by
    have h30 := h.1
    rw [sBeh_up n hf h.1, sBeh_up m hf h.1]
    rcases sNx_spec h.1 (par f) (rk f) with ⟨e, -⟩ | ⟨j, j1, j2, -⟩
    · rw [e]
      rcases (h.2 f hf).2.2 with g | ⟨q, g1, g2, -⟩
      · rw [g, sBeh_top, sBeh_top]
      · rw [g2]; exact sBeh_fuel h n m q (by omega) (by omega) (by omega)
    · rw [j2, sBeh_stay _ _ _ (nI_ne9 (by omega)), sBeh_stay _ _ _ (nI_ne9 (by omega))]
theorem ln_sib {par rk born live : Nat → Int32} {np m q : Nat} {year : Int32} (h : okM par rk born np) (hq : q < np) (ih : ∀ c, c < np → q < c → sFa par rk born live np year np (nI c) = if 0 ≤ lnN par born live np year m c then lnN par born live np year m c else sFa par rk born live np year np (sBeh par rk np 30 (nI c) (-9))) :
    ∀ k c, c < np → par c = nI q → afN born np c < k → sFa par rk born live np year np (nI c) = if 0 ≤ lwN par born np (fun x => lnN par born live np year m x.toNatClampNeg) (nI q) k (nI c) (-9) then lwN par born np (fun x => lnN par born live np year m x.toNatClampNeg) (nI q) k (nI c) (-9) else sFa par rk born live np year np (sBeh par rk np 30 (nI q) (-9)) := by
  have h30 := h.1
  intro k
  induction k with
  | zero => intro c _ _ h0; omega
  | succ k ihk =>
    intro c hc hp hk
    have hqc := par_kid h hc hp (by omega)
    have el : lwN par born np (fun x => lnN par born live np year m x.toNatClampNeg) (nI q) (k + 1) (nI c) (-9) = lwN par born np (fun x => lnN par born live np year m x.toNatClampNeg) (nI q) k (sChild par born np (nI q) (nI c)) (lnN par born live np year m c) := by
      rw [lwN, if_pos ⟨nI_pos' (by omega), by decide⟩, nI_cl1 (by omega)]
    rw [el, ih c hc hqc]
    rcases lnN_9 (par := par) (born := born) (live := live) (np := np) (year := year) m c (by omega) with g | g
    · rw [g, if_neg (by decide), sBeh_up 29 hc h.1, hp, ch_eq h (by omega) (nI c) (rk c) (Or.inr ⟨c, hc, rfl, rfl, hp⟩)]
      rcases sNx_spec h.1 (nI q) (rk c) with ⟨e, -⟩ | ⟨d, d1, d2, d3, d4, -⟩
      · rw [e, lwN_stay _ _ _ (fun g2 => absurd g2.1 (by decide)), if_neg (by decide), sBeh_fuel h 29 30 q hq (by omega) (by omega)]
      · rw [d2, sBeh_stay _ _ _ (nI_ne9 (by omega))]
        refine ihk d d1 d3 ?_
        have hb := (sBef_key (by omega) (by omega)).mp ((rk_key h hc d1 hp d3 (by omega)).mp d4)
        have := afN_lt (np := np) d1 hb
        omega
    · rw [if_pos g, lwN_stay _ _ _ (fun g2 => Int32.lt_irrefl (Int32.lt_of_le_of_lt g g2.2)), if_pos g]
theorem ln_all {par rk born live : Nat → Int32} {np : Nat} {year : Int32} (h : okM par rk born np) : ∀ m q, q < np → np - q ≤ m → sFa par rk born live np year np (nI q) = if 0 ≤ lnN par born live np year m q then lnN par born live np year m q else sFa par rk born live np year np (sBeh par rk np 30 (nI q) (-9)) := by
  have h30 := h.1
  intro m
  induction m with
  | zero => intro q _ _; omega
  | succ m ih =>
    intro q hq hm
    rw [sF_eq h hq, lnN]
    by_cases g : ¬ live q = 0 ∧ 20 ≤ year - born q
    · rw [if_pos g, if_pos g, if_pos (nI_pos' (by omega))]
    · rw [if_neg g, if_neg g]
      have hs := ln_sib (live := live) (year := year) (m := m) h hq (fun c hc hqc => ih c hc (by omega)) (np + 1)
      unfold nxt
      rw [ch_eq h (by omega) (-1) (-1) (Or.inl ⟨rfl, rfl⟩)]
      rcases sNx_spec h.1 (nI q) (-1) with ⟨e, -⟩ | ⟨c, c1, c2, c3, -⟩
      · rw [e, lwN_stay _ _ _ (fun g2 => absurd g2.1 (by decide)), if_neg (by decide)]
      · rw [c2, sBeh_stay _ _ _ (nI_ne9 (by omega))]
        have := afN_le born np c
        exact hs c c1 c3 (by omega)
theorem msN_stay {par born live : Nat → Int32} {np : Nat} {year : Int32} (n i : Nat) (b : Int32) (h : 0 ≤ b) : msN par born live np year n i b = b := by
  cases n with
  | zero => rfl
  | succ n => rw [msN, if_neg (fun g => Int32.lt_irrefl (Int32.lt_of_le_of_lt h g))]
theorem pred_lt {i c : Nat} (hi : i < 1000) (hc : c < 1000) : nI i - 1 < nI c ↔ i ≤ c := by
  cases i with
  | zero =>
    refine ⟨fun _ => by omega, fun _ => ?_⟩
    exact Int32.lt_of_lt_of_le (show nI 0 - 1 < 0 by decide) (nI_pos' (by omega))
  | succ j => rw [nI_pred, nI_lt1 (by omega) (by omega)]; omega
theorem rk_root {par rk born : Nat → Int32} {np c : Nat} (h : okM par rk born np) (hc : c < np) (hp : par c = -1) : rk c = nI c := by
  rw [(rk_is h hc).1]
  unfold rkN
  rw [if_pos hp, Nat.zero_mul, Nat.zero_add]
theorem ms_all {par rk born live : Nat → Int32} {np : Nat} {year : Int32} (h : okM par rk born np) : ∀ n i, i + n = np → sFa par rk born live np year np (sNx par rk np (-1) (nI i - 1)) = msN par born live np year n i (-9) := by
  have h30 := h.1
  intro n
  induction n with
  | zero =>
    intro i hi
    rcases sNx_spec h.1 (-1) (nI i - 1) with ⟨e, -⟩ | ⟨c, c1, c2, c3, c4, -⟩
    · rw [e, sFa_9]; rfl
    · rw [rk_root h c1 c3] at c4
      have := (pred_lt (by omega) (by omega)).mp c4
      omega
  | succ n ih =>
    intro i hi
    rw [msN, if_pos (by decide)]
    have hin : i < np := by omega
    by_cases hp : par i = -1
    · rw [if_pos hp]
      have hx : sNx par rk np (-1) (nI i - 1) = nI i := by
        rcases sNx_spec h.1 (-1) (nI i - 1) with ⟨e, g⟩ | ⟨c, c1, c2, c3, c4, c5⟩
        · exact absurd (show par i = -1 ∧ nI i - 1 < rk i from ⟨hp, by rw [rk_root h hin hp]; exact (pred_lt (by omega) (by omega)).mpr (Nat.le_refl _)⟩) (g i hin)
        · rw [rk_root h c1 c3] at c4 c5
          have g1 := (pred_lt (by omega) (by omega)).mp c4
          have g2 := c5 i hin hp (by rw [rk_root h hin hp]; exact (pred_lt (by omega) (by omega)).mpr (Nat.le_refl _))
          rw [rk_root h hin hp, nI_le1 (by omega) (by omega)] at g2
          rw [c2, show c = i by omega]
      rw [hx, ln_all h 31 i hin (by omega)]
      rcases lnN_9 (par := par) (born := born) (live := live) (np := np) (year := year) 31 i (by omega) with g | g
      · rw [g, if_neg (by decide), sBeh_up 29 hin h.1, hp, sBeh_top, rk_root h hin hp, ← ih (i + 1) (by omega), nI_pred]
      · rw [if_pos g, msN_stay _ _ _ g]
    · rw [if_neg hp, ← ih (i + 1) (by omega), nI_pred]
      congr 1
      unfold sNx
      refine fo_congr _ _ _ (fun c a c1 c2 => ?_)
      unfold sNx1
      by_cases g : par c = -1
      · have hci : c ≠ i := fun q => hp (by rw [← q]; exact g)
        have e : (nI i - 1 < rk c) ↔ (nI i < rk c) := by
          rw [rk_root h (by omega) g, pred_lt (by omega) (by omega), nI_lt1 (by omega) (by omega)]
          omega
        by_cases g2 : par c = -1 ∧ nI i < rk c ∧ (a = -9 ∨ rk c < rk a.toNatClampNeg)
        · rw [if_pos g2, if_pos ⟨g2.1, e.mpr g2.2.1, g2.2.2⟩]
        · rw [if_neg g2, if_neg (fun q => g2 ⟨q.1, e.mp q.2.1, q.2.2⟩)]
      · rw [if_neg (fun q => g q.1), if_neg (fun q => g q.1)]
theorem iP_okM {ι : gIm} {np : Nat} (h : iP ι np) : okM (ι 32) (ι 35) (ι 33) np := ⟨h.2.2.1, fun c hc => by
  obtain ⟨u1, u2, u3, u4, u5⟩ := h.2.2.2.1 c hc
  exact ⟨u3, u4, u5⟩⟩
theorem o_master {k : Nat} {ι : gIm} {ρ : gRm} {Λ : gLm} {yr wk nh nr nb ns np ch : Nat} (h : Inv8 k ι ρ Λ yr wk nh nr nb ns np ch) : Both k 4 36 0 0 jX11_master jX12_master [] ι ρ Λ := by
  obtain ⟨a1, a2, a3, a4, a5, a6, a7, a8, a9, b1, b2, b3, b4⟩ := id h
  have q1 : nh ≤ 24 := a4.2.2.1
  have q2 : nr ≤ 200 := a5.2.2.1
  have q3 : nb ≤ 40 := a8.2.2.1
  have q4 : ns ≤ 12 := a9.2.2.1
  have q5 : np ≤ 30 := b1.2.2.1
  obtain ⟨s1, s2, s3, s4, s5, s6, s7⟩ := id a3
  obtain ⟨p1, p2, p3, p4, p5⟩ := id b1
  have ok := iP_okM b1
  have e32 : ι 74 = ι 32 := funext fun j => (p5 j).1.symm
  have e33 : ι 75 = ι 33 := funext fun j => (p5 j).2.1.symm
  have e34 : ι 76 = ι 34 := funext fun j => (p5 j).2.2.symm
  refine both_see h (fun K => x_master K ι ρ Λ a1 np p1 p3) (fun K => ?_)
  have m := m_master K ι ρ Λ a1 np p2 p3 (by
    rw [e32, e33]
    intro c q hc hq hp
    obtain ⟨-, -, u3, -, u5⟩ := p4 c hc
    rcases u5 with g | ⟨q', g1, g2, g3⟩
    · rw [hp] at g
      exact absurd (by rw [g]; decide) (nI_pos (show q < 2 ^ 31 by omega))
    · rw [hp] at g2
      have e := (nI_eq (by omega) (by omega)).mp g2
      subst e
      have := Int32.le_iff_toInt_le.mp g3
      unfold bKey
      omega)
  rw [e32, e33, e34, s2, ← s1, ← ms_all ok np 0 (by omega), show nI 0 - 1 = -1 from by decide] at m
  exact m
