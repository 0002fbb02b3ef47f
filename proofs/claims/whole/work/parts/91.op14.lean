/-! the line of masters: the next in the order is the first of the deep search -/
def lx : List Nat → List Nat → Bool
  | [], [] => false
  | [], _ :: _ => true
  | _ :: _, [] => false
  | a :: s, b :: t => decide (a < b) || (decide (a = b) && lx s t)
theorem lx_irr : ∀ l, lx l l = false
  | [] => rfl
  | a :: s => by simp [lx, lx_irr s]
theorem lx_tr : ∀ a b c, lx a b = true → lx b c = true → lx a c = true
  | [], [], _, h, _ => by cases h
  | [], _ :: _, [], _, h => by cases h
  | [], _ :: _, _ :: _, _, _ => rfl
  | _ :: _, [], _, h, _ => by cases h
  | _ :: _, _ :: _, [], _, h => by cases h
  | a :: s, b :: t, c :: u, h, h2 => by
    simp only [lx, Bool.or_eq_true, Bool.and_eq_true, decide_eq_true_eq] at h h2 ⊢
    rcases h with h | ⟨h, h3⟩
    · rcases h2 with h2 | ⟨h2, h4⟩
      · left; omega
      · left; omega
    · rcases h2 with h2 | ⟨h2, h4⟩
      · left; omega
      · right; exact ⟨by omega, lx_tr s t u h3 h4⟩
theorem lx_ext : ∀ (p : List Nat) (r : Nat) (s : List Nat), lx p (p ++ r :: s) = true
  | [], _, _ => rfl
  | a :: p, r, s => by simp [lx, lx_ext p r s]
theorem lx_sib : ∀ (p : List Nat) (a b : Nat) (s t : List Nat), a < b → lx (p ++ a :: s) (p ++ b :: t) = true
  | [], a, b, s, t, h => by simp [lx, h]
  | c :: p, a, b, s, t, h => by simp [lx, lx_sib p a b s t h]
/-- what is known of the people -/
def okM (par rk born : Nat → Int32) (np : Nat) : Prop := np ≤ 30 ∧ ∀ c, c < np → (-60 ≤ born c ∧ born c ≤ 60) ∧ rk c = (if par c = -1 then 0 else born c + 60) * 30 + nI c ∧ (par c = -1 ∨ ∃ q, q < c ∧ par c = nI q ∧ born q ≤ born c)
def rkN (par born : Nat → Int32) (c : Nat) : Nat := (if par c = -1 then 0 else ((born c).toInt + 60).toNat) * 30 + c
theorem born_u {b : Int32} (h : -60 ≤ b ∧ b ≤ 60) : b + 60 = nI (b.toInt + 60).toNat ∧ (b.toInt + 60).toNat ≤ 120 ∧ -60 ≤ b.toInt ∧ b.toInt ≤ 60 := by
  obtain ⟨h1, h2⟩ := h
  rw [Int32.le_iff_toInt_le, show Int32.toInt (-60) = -60 from rfl] at h1
  rw [Int32.le_iff_toInt_le, show Int32.toInt 60 = 60 from rfl] at h2
  refine ⟨?_, by omega, h1, h2⟩
  refine Int32.toInt_inj.mp ?_
  rw [nI_toInt (by omega), Int32.toInt_add, show Int32.toInt 60 = 60 from rfl]
  simp only [Int.bmod_def]
  split <;> omega
theorem rk_is {par rk born : Nat → Int32} {np c : Nat} (h : okM par rk born np) (hc : c < np) : rk c = nI (rkN par born c) ∧ rkN par born c < 4000 := by
  obtain ⟨h1, h2⟩ := h
  obtain ⟨h3, h4, -⟩ := h2 c hc
  obtain ⟨u1, u2, -⟩ := born_u h3
  unfold rkN
  rw [h4]
  by_cases q : par c = -1
  · rw [if_pos q, if_pos q, show (0 : Int32) * 30 = nI 0 from rfl, nI_add]
    exact ⟨by rw [Nat.zero_mul], by omega⟩
  · rw [if_neg q, if_neg q, u1, show (30 : Int32) = nI 30 from rfl, pk_mul, nI_add]
    exact ⟨rfl, by omega⟩
theorem rk_lt {par rk born : Nat → Int32} {np c d : Nat} (h : okM par rk born np) (hc : c < np) (hd : d < np) : rk c < rk d ↔ rkN par born c < rkN par born d := by
  rw [(rk_is h hc).1, (rk_is h hd).1]
  have := (rk_is h hc).2
  have := (rk_is h hd).2
  exact nI_lt1 (by omega) (by omega)
theorem nI_ne9 {j : Nat} (h : j < 1000000) : ¬ nI j = -9 := fun q => nI_pos (show j < 2 ^ 31 by omega) (by rw [q]; decide)
theorem nI_rng {j np : Nat} (h : j < np) (hn : np ≤ 30) : 0 ≤ nI j ∧ nI j < nI np := ⟨nI_pos' (by omega), nI_lt h (by omega)⟩
/-- what the class finds as the next child -/
theorem sNx_spec {par rk : Nat → Int32} {np : Nat} (hn : np ≤ 30) (p r : Int32) : (sNx par rk np p r = -9 ∧ ∀ c, c < np → ¬ (par c = p ∧ r < rk c)) ∨ ∃ c, c < np ∧ sNx par rk np p r = nI c ∧ par c = p ∧ r < rk c ∧ ∀ d, d < np → par d = p → r < rk d → rk c ≤ rk d := by
  unfold sNx
  refine fo_inv (fun i a => (a = -9 ∧ ∀ c, c < i → ¬ (par c = p ∧ r < rk c)) ∨ ∃ c, c < i ∧ a = nI c ∧ par c = p ∧ r < rk c ∧ ∀ d, d < i → par d = p → r < rk d → rk c ≤ rk d) np (fun i a hi h => ?_) np 0 (-9) (by omega) (Or.inl ⟨rfl, fun c hc => by omega⟩)
  unfold sNx1
  rcases h with ⟨h1, h2⟩ | ⟨c, h1, h2, h3, h4, h5⟩
  · subst h1
    by_cases g : par i = p ∧ r < rk i
    · rw [if_pos ⟨g.1, g.2, Or.inl rfl⟩]
      refine Or.inr ⟨i, by omega, rfl, g.1, g.2, fun d hd hp hr => ?_⟩
      by_cases q : d = i
      · subst q; exact Int32.le_refl _
      · exact absurd ⟨hp, hr⟩ (h2 d (by omega))
    · rw [if_neg (fun q => g ⟨q.1, q.2.1⟩)]
      refine Or.inl ⟨rfl, fun c hc => ?_⟩
      by_cases q : c = i
      · subst q; exact g
      · exact h2 c (by omega)
  · subst h2
    by_cases g : par i = p ∧ r < rk i ∧ (nI c = -9 ∨ rk i < rk (nI c).toNatClampNeg)
    · rw [if_pos g]
      have g3 : rk i < rk c := by
        rcases g.2.2 with q | q
        · exact absurd q (nI_ne9 (by omega))
        · rwa [nI_cl1 (by omega)] at q
      refine Or.inr ⟨i, by omega, rfl, g.1, g.2.1, fun d hd hp hr => ?_⟩
      by_cases q : d = i
      · subst q; exact Int32.le_refl _
      · exact Int32.le_trans (Int32.le_of_lt g3) (h5 d (by omega) hp hr)
    · rw [if_neg g]
      refine Or.inr ⟨c, by omega, rfl, h3, h4, fun d hd hp hr => ?_⟩
      by_cases q : d = i
      · subst q
        refine Int32.not_lt.mp (fun q2 => g ⟨hp, hr, Or.inr ?_⟩)
        rwa [nI_cl1 (by omega)]
      · exact h5 d (by omega) hp hr
/-- the way from the root -/
def pa (par born : Nat → Int32) : Nat → Nat → List Nat
  | 0, _ => []
  | m + 1, c => (if par c = -1 then [] else pa par born m (par c).toNatClampNeg) ++ [rkN par born c]
def pth (par born : Nat → Int32) (c : Nat) : List Nat := pa par born (c + 1) c
theorem pa_fuel {par rk born : Nat → Int32} {np : Nat} (h : okM par rk born np) : ∀ m n c, c < np → c < m → c < n → pa par born m c = pa par born n c
  | 0, _, _, _, h1, _ => by omega
  | m + 1, 0, _, _, _, h2 => by omega
  | m + 1, n + 1, c, hc, h1, h2 => by
    rw [pa, pa]
    rcases (h.2 c hc).2.2 with q | ⟨q, q1, q2, -⟩
    · rw [if_pos q, if_pos q]
    · have h30 := h.1
      rw [q2, nI_cl1 (by omega), pa_fuel h m n q (by omega) (by omega) (by omega)]
theorem pth_root {par born : Nat → Int32} {c : Nat} (h : par c = -1) : pth par born c = [] ++ [rkN par born c] := by
  unfold pth; rw [pa, if_pos h]
theorem pth_kid {par rk born : Nat → Int32} {np c q : Nat} (h : okM par rk born np) (hc : c < np) (hq : par c = nI q) (hq2 : q < c) : pth par born c = pth par born q ++ [rkN par born c] := by
  have h30 := h.1
  unfold pth
  rw [pa, if_neg (by rw [hq]; intro q0; exact nI_pos (show q < 2 ^ 31 by omega) (by rw [q0]; decide)), hq, nI_cl1 (by omega), pa_fuel h c (q + 1) q (by omega) hq2 (by omega)]
theorem par_kid {par rk born : Nat → Int32} {np c q : Nat} (h : okM par rk born np) (hc : c < np) (hq : par c = nI q) (hqn : q < 1000) : q < c := by
  rcases (h.2 c hc).2.2 with g | ⟨q', g1, g2, -⟩
  · rw [hq] at g
    exact absurd (by rw [g]; decide) (nI_pos (show q < 2 ^ 31 by omega))
  · have h30 := h.1
    rw [hq] at g2
    have := (nI_eq (by omega) (by omega)).mp g2
    omega
/-- how many come behind x in the whole order -/
def rst (par born : Nat → Int32) (np x : Nat) : Nat := (List.range np).countP (fun y => lx (pth par born x) (pth par born y))
theorem rst_lt {par born : Nat → Int32} {np x y : Nat} (hy : y < np) (h : lx (pth par born x) (pth par born y) = true) : rst par born np y < rst par born np x := by
  unfold rst
  refine countP_lt _ (fun z _ hz => lx_tr _ _ _ h hz) ⟨y, List.mem_range.mpr hy, h, lx_irr _⟩
theorem rst_np {par born : Nat → Int32} {np x : Nat} (hx : x < np) : rst par born np x < np := by
  unfold rst
  have h := countP_lt (P := fun y => lx (pth par born x) (pth par born y)) (Q := fun _ => true) (List.range np) (fun _ _ _ => rfl) ⟨x, List.mem_range.mpr hx, rfl, lx_irr _⟩
  have h2 : (List.range np).countP (fun _ => true) ≤ (List.range np).length := List.countP_le_length
  rw [List.length_range] at h2
  omega
theorem sBeh_stay {par rk : Nat → Int32} {np : Nat} (n : Nat) (f nx : Int32) (h : ¬ nx = -9) : sBeh par rk np n f nx = nx := by
  cases n with
  | zero => rfl
  | succ n => rw [sBeh, if_neg (fun q => h q.1)]
theorem sBeh_top {par rk : Nat → Int32} {np : Nat} (n : Nat) (nx : Int32) : sBeh par rk np n (-1) nx = nx := by
  cases n with
  | zero => rfl
  | succ n => rw [sBeh, if_neg (fun q => absurd q.2.1 (by decide))]
theorem sBeh_up {par rk : Nat → Int32} {np : Nat} (n : Nat) {f : Nat} (hf : f < np) (hn : np ≤ 30) : sBeh par rk np (n + 1) (nI f) (-9) = sBeh par rk np n (par f) (sNx par rk np (par f) (rk f)) := by
  rw [sBeh, if_pos ⟨rfl, nI_rng hf hn⟩, nI_cl1 (by omega)]
/-- the next behind a part of the tree comes behind in the order -/
theorem sBeh_lx {par rk born : Nat → Int32} {np : Nat} (h : okM par rk born np) : ∀ n f s x, f < np → pth par born x = pth par born f ++ s → sBeh par rk np n (nI f) (-9) = -9 ∨ ∃ j, j < np ∧ sBeh par rk np n (nI f) (-9) = nI j ∧ lx (pth par born x) (pth par born j) = true := by
  intro n
  have h30 := h.1
  induction n with
  | zero => intro f s x _ _; exact Or.inl rfl
  | succ n ih =>
    intro f s x hf hp
    rw [sBeh_up n hf h.1]
    have sib : ∀ j, j < np → par j = par f → rkN par born f < rkN par born j → lx (pth par born x) (pth par born j) = true := by
      intro j hj hpj hlt
      rw [hp]
      rcases (h.2 f hf).2.2 with g | ⟨q, g1, g2, -⟩
      · rw [pth_root g, pth_root (hpj.trans g), List.append_assoc]
        exact lx_sib _ _ _ _ _ hlt
      · rw [pth_kid h hf g2 g1, pth_kid h hj (hpj.trans g2) (par_kid h hj (hpj.trans g2) (by omega)), List.append_assoc]
        exact lx_sib _ _ _ _ _ hlt
    rcases sNx_spec h.1 (par f) (rk f) with ⟨e, -⟩ | ⟨j, j1, j2, j3, j4, -⟩
    · rw [e]
      rcases (h.2 f hf).2.2 with g | ⟨q, g1, g2, -⟩
      · rw [g, sBeh_top]; exact Or.inl rfl
      · rw [g2]
        exact ih q ([rkN par born f] ++ s) x (by omega) (by rw [hp, pth_kid h hf g2 g1, List.append_assoc])
    · rw [j2, sBeh_stay _ _ _ (nI_ne9 (by omega))]
      exact Or.inr ⟨j, j1, rfl, sib j j1 j3 ((rk_lt h hf j1).mp j4)⟩
def nxt (par rk : Nat → Int32) (np x : Nat) : Int32 := sBeh par rk np 30 (nI x) (sNx par rk np (nI x) (-1))
theorem nxt_lx {par rk born : Nat → Int32} {np x : Nat} (h : okM par rk born np) (hx : x < np) : nxt par rk np x = -9 ∨ ∃ j, j < np ∧ nxt par rk np x = nI j ∧ rst par born np j < rst par born np x := by
  have h30 := h.1
  unfold nxt
  rcases sNx_spec h.1 (nI x) (-1) with ⟨e, -⟩ | ⟨j, j1, j2, j3, j4, -⟩
  · rw [e]
    rcases sBeh_lx h 30 x [] x hx (by simp) with g | ⟨j, j1, j2, j3⟩
    · exact Or.inl g
    · exact Or.inr ⟨j, j1, j2, rst_lt j1 j3⟩
  · rw [j2, sBeh_stay _ _ _ (nI_ne9 (by omega))]
    refine Or.inr ⟨j, j1, rfl, rst_lt j1 ?_⟩
    rw [pth_kid h j1 j3 (par_kid h j1 j3 (by omega))]
    exact lx_ext _ _ _
def elg (born live : Nat → Int32) (year : Int32) (x : Nat) : Prop := ¬ live x = 0 ∧ 20 ≤ year - born x
theorem sFa_9 {par rk born live : Nat → Int32} {np : Nat} {year : Int32} (n : Nat) : sFa par rk born live np year n (-9) = -9 := by
  cases n with
  | zero => rfl
  | succ n => rw [sFa, if_neg (fun q => absurd q.1 (by decide))]
theorem sFa_s {par rk born live : Nat → Int32} {np x : Nat} {year : Int32} (n : Nat) (hx : x < np) (hn : np ≤ 30) : sFa par rk born live np year (n + 1) (nI x) = if ¬ live x = 0 ∧ 20 ≤ year - born x then nI x else sFa par rk born live np year n (nxt par rk np x) := by
  rw [sFa, if_pos (nI_rng hx hn), nI_cl1 (by omega)]
  rfl
theorem sFa_fuel {par rk born live : Nat → Int32} {np : Nat} {year : Int32} (h : okM par rk born np) : ∀ n m x, x < np → rst par born np x < n → rst par born np x < m → sFa par rk born live np year n (nI x) = sFa par rk born live np year m (nI x)
  | 0, _, _, _, h1, _ => by omega
  | n + 1, 0, _, _, _, h2 => by omega
  | n + 1, m + 1, x, hx, h1, h2 => by
    rw [sFa_s n hx h.1, sFa_s m hx h.1]
    rcases nxt_lx h hx with g | ⟨j, j1, j2, j3⟩
    · rw [g, sFa_9, sFa_9]
    · rw [j2, sFa_fuel h n m j j1 (by omega) (by omega)]
theorem sF_eq {par rk born live : Nat → Int32} {np x : Nat} {year : Int32} (h : okM par rk born np) (hx : x < np) : sFa par rk born live np year np (nI x) = if ¬ live x = 0 ∧ 20 ≤ year - born x then nI x else sFa par rk born live np year np (nxt par rk np x) := by
  obtain ⟨n, hn⟩ : ∃ n, np = n + 1 := ⟨np - 1, by omega⟩
  have e : sFa par rk born live np year np (nI x) = sFa par rk born live np year (n + 1) (nI x) := by rw [← hn]
  rw [e, sFa_s n hx h.1]
  have hr := rst_np (par := par) (born := born) hx
  rcases nxt_lx h hx with g | ⟨j, j1, j2, j3⟩
  · rw [g, sFa_9, sFa_9]
  · rw [j2, sFa_fuel h n np j j1 (by omega) (by omega)]
