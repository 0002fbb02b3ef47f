/-! calls of both: strands, ropeOf, the bridge -/
theorem fo_app {α : Type} (f : Nat → α → α) : ∀ (m n i : Nat) (a : α), fo f (m + n) i a = fo f n (i + m) (fo f m i a)
  | 0, n, i, a => by rw [Nat.zero_add, fo_0, Nat.add_zero]
  | m + 1, n, i, a => by
    rw [show m + 1 + n = m + n + 1 by omega, fo_s, fo_app f m n (i + 1), fo_s]
    congr 1
    omega
theorem fo_acc (f : Nat → Int32) : ∀ (n i : Nat) (a : Int32), fo (fun i a => a + f i) n i a = a + fo (fun i a => a + f i) n i 0
  | 0, _, a => (Int32.add_zero a).symm
  | n + 1, i, a => by
    rw [fo_s, fo_s, fo_acc f n (i + 1) (a + f i), fo_acc f n (i + 1) (0 + f i)]
    grind
theorem fo_sh {α : Type} (f : Nat → α → α) (s : Nat) : ∀ (n i : Nat) (a : α), fo f n (s + i) a = fo (fun k a => f (s + k) a) n i a
  | 0, _, _ => rfl
  | n + 1, i, a => by
    rw [fo_s, fo_s, ← fo_sh f s n (i + 1)]
    rfl
theorem xCords_3 (ow : Nat → Int32) (L : Nat) (h : Int32) : xCords ow (3 * L) h = xCords ow L h + xCords (fun k => ow (1 * L + k)) L h + xCords (fun k => ow (2 * L + k)) L h := by
  unfold xCords
  rw [show 3 * L = L + (L + L) by omega, fo_app, fo_app, fo_acc _ L _ (fo _ L _ _), fo_acc _ L _ (fo _ L 0 0)]
  rw [show 0 + L + L = 2 * L + 0 by omega, show 0 + L = 1 * L + 0 by omega, fo_sh _ (1 * L), fo_sh _ (2 * L)]
theorem xCords_congr {f g : Nat → Int32} {n : Nat} {h : Int32} (e : ∀ k, k < n → f k = g k) : xCords f n h = xCords g n h := by
  unfold xCords
  exact fo_congr _ _ _ (fun k a h1 h2 => by rw [e k (by omega)])
theorem str_eq {ι : gIm} {nr : Nat} (hL : iL ι nr) (hn : nr ≤ 200) (h : Int32) : ∀ d r, r < nr → d ≤ 2 → ι 52 r = nI d → xCords (ι (400 + r)) (cn (nI d)) h = sStr (ι 52) (ι 56) d r h := by
  intro d
  induction d with
  | zero =>
    intro r hr _ h0
    have hS : lfS ι r := by
      rcases hL r hr with g | g | g
      · exact g.2.2.2
      · rw [h0] at g; exact absurd g.1 (by decide)
      · rw [h0] at g; exact absurd g.1 (by decide)
    unfold xCords
    rw [sStr, show cn (nI 0) = 3 by decide]
    exact fo_congr _ _ _ (fun k a h1 h2 => by rw [(hS.2.1 k (by omega)).1])
  | succ d ih =>
    intro r hr hd h0
    have hG : lfG ι r := by
      rcases hL r hr with g | g | g
      · rw [h0] at g
        exact absurd (g.1 : nI (d + 1) = nI 0) (fun e => by have := (nI_eq (a := d + 1) (b := 0) (by omega) (by omega)).mp e; omega)
      · exact g.2.2.2
      · exact g.2.2.2
    have hk : nI d = 0 ∨ nI d = 1 := by
      rcases (by omega : d = 0 ∨ d = 1) with q | q <;> subst q
      · exact Or.inl rfl
      · exact Or.inr rfl
    have hL2 : cn (nI (d + 1)) = 3 * cn (nI d) := by rw [nI_succ]; exact (cn_3 hk).symm
    have each : ∀ i, i < 3 → xCords (fun k => ι (400 + r) (i * cn (nI d) + k)) (cn (nI d)) h = sStr (ι 52) (ι 56) d (ι 56 (3 * r + i)).toNatClampNeg h := by
      intro i hi
      obtain ⟨q, g1, g2, g3, g4⟩ := hG i hi
      have g5 : ι 52 q = nI d := by
        rw [h0, nI_succ] at g3
        have : ι 52 q + 1 - 1 = nI d + 1 - 1 := by rw [g3]
        grind
      have hq : q < nr := by omega
      rw [g2, nI_cl1 (by omega), ← ih q hq (by omega) g5]
      rw [g5] at g4
      exact xCords_congr (fun k hk => (g4 k hk).1)
    rw [hL2, xCords_3, sStr]
    have e0 : xCords (ι (400 + r)) (cn (nI d)) h = sStr (ι 52) (ι 56) d (ι 56 (3 * r + 0)).toNatClampNeg h := by
      rw [← each 0 (by omega)]
      exact xCords_congr (fun k hk => by rw [Nat.zero_mul, Nat.zero_add])
    rw [each 1 (by omega), each 2 (by omega), e0]
    have : ∀ x y w : Int32, x + y + w = 0 + x + y + w := fun x y w => by grind
    exact this _ _ _
theorem cTwo_0 {r h : Int32} {nr nh : Nat} (hc : cTwo r (nI nr) h (nI nh) = 0) (h1 : nr < 1000000) (h2 : nh < 1000000) : r.toNatClampNeg < nr ∧ h.toNatClampNeg < nh := by
  unfold cTwo at hc
  split at hc
  · rename_i hw; exact ⟨nn_i hw.1 h1, nn_i hw.2 h2⟩
  · exact absurd hc (by decide)
theorem cRope_0 {r what : Int32} {nr : Nat} (hc : cRope r (nI nr) what = 0) (h1 : nr < 1000000) : r.toNatClampNeg < nr := by
  unfold cRope at hc
  split at hc
  · rename_i hw; exact nn_i hw h1
  · exact absurd hc (by decide)
theorem lf_par {ι : gIm} {nr : Nat} (hL : iL ι nr) : ∀ r i, r < nr → i < 3 → ¬ ι 52 r = 0 → ∃ q, q < nr ∧ ι 56 (3 * r + i) = nI q ∧ ι 52 q + 1 = ι 52 r := by
  intro r i hr hi h0
  have hG : lfG ι r := by
    rcases hL r hr with g | g | g
    · exact absurd g.1 h0
    · exact g.2.2.2
    · exact g.2.2.2
  obtain ⟨q, g1, g2, g3, -⟩ := hG i hi
  exact ⟨q, by omega, g2, g3⟩
theorem lf_nI {ι : gIm} {r : Nat} (h : lf ι r) : ∃ d, d ≤ 2 ∧ ι 52 r = nI d := by
  rcases lf_kd h with q | q | q
  · exact ⟨0, by omega, q⟩
  · exact ⟨1, by omega, q⟩
  · exact ⟨2, by omega, q⟩
theorem o_strands {k : Nat} {ι : gIm} {ρ : gRm} {Λ : gLm} {yr wk nh nr nb ns np ch : Nat} (h : Inv8 k ι ρ Λ yr wk nh nr nb ns np ch) (r x : Int32) : Both k 3 4 0 0 jX11_strands jX12_strands [vI r, vI x] ι ρ Λ := by
  obtain ⟨a1, a2, a3, a4, a5, a6, a7, a8, a9, b1, b2, b3, b4⟩ := id h
  have q1 : nh ≤ 24 := a4.2.2.1
  have q2 : nr ≤ 200 := a5.2.2.1
  have q3 : nb ≤ 40 := a8.2.2.1
  have q4 : ns ≤ 12 := a9.2.2.1
  have q5 : np ≤ 30 := b1.2.2.1
  obtain ⟨h1, h2, h3, h4, h5, h6⟩ := id a4
  obtain ⟨n1, n2, n3, n4, n5⟩ := id a5
  refine both_ask h (fun K => x_strands K r x ι ρ Λ a1 nh h1 h3 (fun i hi => (h5 i hi).1) nr n1 n3 (fun r hr => (n4 r hr).1.1) (fun r hr => (n4 r hr).1.2) (fun r hr => (n4 r hr).2.1)) (fun K z ρ1 Λ1 hF hz => ?_)
  have m := m_strands K r x z ρ1 Λ1 hF nh ((congrFun (hz 40 (by omega) (by omega)) 4).trans h2) h3 nr ((congrFun (hz 40 (by omega) (by omega)) 5).trans n2) n3 (by rw [hz 52 (by omega) (by omega), hz 56 (by omega) (by omega)]; exact lf_par a6) (by rw [hz 52 (by omega) (by omega)]; exact fun r hr => lf_kd (a6 r hr))
  rw [hz 52 (by omega) (by omega), hz 56 (by omega) (by omega)] at m
  rw [rs_eq (v := xCords (ι (400 + r.toNatClampNeg)) (cn (ι (200 + r.toNatClampNeg) 1)) x) (w := sStr (ι 52) (ι 56) (ι 52 r.toNatClampNeg).toNatClampNeg r.toNatClampNeg x) (fun hc => ?_)]
  · exact m
  · have hr := (cTwo_0 hc (by omega) (by omega)).1
    obtain ⟨d, g1, g2⟩ := lf_nI (a6 _ hr)
    rw [kd_eq a5 hr, g2, nI_cl1 (by omega)]
    exact str_eq a6 n3 x d _ hr g1 g2
theorem o_ropeOf {k : Nat} {ι : gIm} {ρ : gRm} {Λ : gLm} {yr wk nh nr nb ns np ch : Nat} (h : Inv8 k ι ρ Λ yr wk nh nr nb ns np ch) (r what : Int32) : Both k 3 3 0 0 jX11_ropeOf jX12_ropeOf [vI r, vI what] ι ρ Λ := by
  obtain ⟨a1, a2, a3, a4, a5, a6, a7, a8, a9, b1, b2, b3, b4⟩ := id h
  have q1 : nh ≤ 24 := a4.2.2.1
  have q2 : nr ≤ 200 := a5.2.2.1
  have q3 : nb ≤ 40 := a8.2.2.1
  have q4 : ns ≤ 12 := a9.2.2.1
  have q5 : np ≤ 30 := b1.2.2.1
  obtain ⟨h1, h2, h3, h4, h5, h6⟩ := id a4
  obtain ⟨n1, n2, n3, n4, n5⟩ := id a5
  refine both_ask h (fun K => x_ropeOf K r what ι ρ Λ a1 nr n1 n3 (fun r hr => (n4 r hr).1.1)) (fun K z ρ1 Λ1 hF hz => ?_)
  have m := m_ropeOf K r what z ρ1 Λ1 hF nr ((congrFun (hz 40 (by omega) (by omega)) 5).trans n2) n3
  rw [hz 52 (by omega) (by omega), hz 53 (by omega) (by omega), hz 58 (by omega) (by omega), hz 54 (by omega) (by omega), hz 55 (by omega) (by omega), hz 40 (by omega) (by omega)] at m
  rw [rs_eq (w := vRope (ι 52 r.toNatClampNeg) (ι 53 r.toNatClampNeg) (sFree (ι 58 r.toNatClampNeg) (ι 54 r.toNatClampNeg) (ι 40 2)) (ι 55 r.toNatClampNeg) (ι 54 r.toNatClampNeg) what) (fun hc => ?_)]
  · exact m
  · have hr := cRope_0 hc (by omega)
    rw [free_eq (n4 _ hr) a3]
    obtain ⟨-, -, ⟨u1, u2, u3, u4, u5⟩, -⟩ := n4 _ hr
    rw [u2, u3, u4, u5]
