/-! the model: all rows -/
theorem nI_bit : ∀ s, s < 8 → ∀ d, d < 256 → (nI d >>> (nI s &&& 31)) &&& 1 = nI (d / 2 ^ s % 2) := by decide +kernel
theorem nI_e1 {x : Nat} (h : x < 1000000) : nI x = 1 ↔ x = 1 := by
  constructor
  · intro h2
    have := congrArg Int32.toNatClampNeg h2
    rw [nI_cl1 h] at this
    exact this
  · intro h2; subst h2; rfl
def thN (ι : gIm) (P : Nat → Nat) (up s : Nat) : Nat := if ι 66 s = 0 then up ||| 2 ^ P s else if ι 66 s = 1 then up &&& (255 ^^^ 2 ^ P s) else up
def stB (ι : gIm) (P : Nat → Nat) (up led s : Nat) : Bool := (decide (ι 66 s = 2) || (decide (ι 66 s = 0) && decide (2 ≤ led))) && decide (pc ((thN ι P up s &&& (255 ^^^ 2 ^ P s)) &&& 15) < 2)
def okTr (ι : gIm) (P A : Nat → Nat) (up dn led : Nat) (en : Int32) (s : Nat) : Bool :=
  decide (¬ dn / 2 ^ s % 2 = 1) && decide (A s &&& (255 ^^^ dn) = 0) && (if ι 66 s = 0 then decide (up &&& 2 ^ P s = 0) else decide (¬ up &&& 2 ^ P s = 0)) && (decide (ι 66 s = 1) || decide (en = 0)) && !stB ι P up led s
def ldN (ι : gIm) (led s : Nat) : Nat := led + (if ι 66 s = 0 then 1 else 0)
def enN (ι : gIm) (P : Nat → Nat) (up : Nat) (en : Int32) (s : Nat) : Int32 := if ¬ en = 0 ∨ (ι 66 s = 1 ∧ pc (thN ι P up s &&& 15) < 2) then 1 else 0
def mBest (ns nh : Nat) (ι : gIm) : gIm :=
  let z := mDy (sHands (ι 50) (ι 44) nh) ns ι
  if ¬ z 40 41 < 0 ∧ z 40 41 ≤ z 73 ns then z else va_up (up2 z 40 41 (z 73 ns)) 72 (fil (z 71) ns (z 72))
def mTr (ns nh : Nat) (P A : Nat → Nat) : Nat → Nat → Nat → Nat → Nat → Int32 → gIm → gIm
  | 0, _, _, _, _, _, ι => mBest ns nh ι
  | m + 1, k, up, dn, led, en, ι => fo (fun s z => if okTr z P A up dn led en s = true then mTr ns nh P A m (k + 1) (thN z P up s) (dn ||| 2 ^ s) (ldN z led s) (enN z P up en s) (up2 z 71 k (nI s)) else z) ns 0 ι
def okT (ns nh : Nat) (P A : Nat → Nat) (k : Nat) (ι : gIm) : Prop := ι 40 8 = nI ns ∧ ι 40 4 = nI nh ∧ (∀ s, s < ns → ι 67 s = nI (P s) ∧ P s < 6) ∧ (∀ s, s < ns → ι 70 s = nI (A s) ∧ A s < 256) ∧ ∀ j, j < k → ι 71 j = nI (rwM ι j) ∧ rwM ι j < ns
theorem okT_of {ns nh : Nat} {P A : Nat → Nat} {k : Nat} {ι z : gIm} (h : okT ns nh P A k ι) (h8 : z 40 8 = ι 40 8) (h4 : z 40 4 = ι 40 4) (h67 : z 67 = ι 67) (h70 : z 70 = ι 70) (h71 : z 71 = ι 71) : okT ns nh P A k z := by
  unfold okT rwM at *
  rw [h8, h4, h67, h70, h71]
  exact h
theorem mBest_ne {ns nh : Nat} {ι : gIm} {c : Nat} (h : c ≠ 72 ∧ c ≠ 73 ∧ c ≠ 40) : mBest ns nh ι c = ι c := by
  unfold mBest
  split
  · exact mDy_ne h.2.1 _ _ _ |>.trans (up2_ne _ _ _ h.2.1)
  · rw [va_up_ne _ _ h.1, up2_ne _ _ _ h.2.2]
    exact mDy_ne h.2.1 _ _ _ |>.trans (up2_ne _ _ _ h.2.1)
theorem mBest_40 {ns nh : Nat} {ι : gIm} {k : Nat} (h : k ≠ 41) : mBest ns nh ι 40 k = ι 40 k := by
  have e : mDy (sHands (ι 50) (ι 44) nh) ns ι 40 = ι 40 := mDy_ne (by decide) _ _ _ |>.trans (up2_ne _ _ _ (by decide))
  unfold mBest
  split
  · rw [e]
  · rw [va_up_ne _ _ (by decide), up2_row, va_up_ne _ _ h, e]
theorem okT_best {ns nh : Nat} {P A : Nat → Nat} {k : Nat} {ι : gIm} (h : okT ns nh P A k ι) : okT ns nh P A k (mBest ns nh ι) := okT_of h (mBest_40 (by decide)) (mBest_40 (by decide)) (mBest_ne (by decide)) (mBest_ne (by decide)) (mBest_ne (by decide))
theorem okT_up {ns nh : Nat} {P A : Nat → Nat} {k s : Nat} {ι : gIm} (h : okT ns nh P A k ι) (hs : s < ns) (hn : ns ≤ 8) : okT ns nh P A (k + 1) (up2 ι 71 k (nI s)) := by
  obtain ⟨h1, h2, h3, h4, h5⟩ := h
  refine ⟨by rw [up2_ne _ _ _ (by decide)]; exact h1, by rw [up2_ne _ _ _ (by decide)]; exact h2, by rw [up2_ne _ _ _ (by decide)]; exact h3, by rw [up2_ne _ _ _ (by decide)]; exact h4, fun j hj => ?_⟩
  unfold rwM
  rw [up2_row]
  by_cases hjk : j = k
  · subst hjk
    rw [va_up_self, nI_cl1 (by omega)]
    exact ⟨rfl, hs⟩
  · rw [va_up_ne _ _ hjk]
    exact h5 j (by omega)
theorem okT_tr {ns nh : Nat} {P A : Nat → Nat} (hn : ns ≤ 8) : ∀ (m k up dn led : Nat) (en : Int32) (ι : gIm), okT ns nh P A k ι → okT ns nh P A k (mTr ns nh P A m k up dn led en ι) := by
  intro m
  induction m with
  | zero => intro k up dn led en ι h; exact okT_best h
  | succ m ih =>
    intro k up dn led en ι h
    rw [mTr]
    refine fo_inv (fun _ z => okT ns nh P A k z) ns (fun s z hs hz => ?_) ns 0 ι (by omega) h
    split
    · obtain ⟨h1, h2, h3, h4, h5⟩ := ih (k + 1) (thN z P up s) (dn ||| 2 ^ s) (ldN z led s) (enN z P up en s) _ (okT_up hz hs hn)
      exact ⟨h1, h2, h3, h4, fun j hj => h5 j (by omega)⟩
    · exact hz
