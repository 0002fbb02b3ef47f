/-! weeks: the class's rows and the model's rows apart -/
def comb (x z : gIm) : gIm := fun c => if 40 ≤ c ∧ c < 77 then z c else x c
theorem comb_self (x : gIm) : comb x x = x := by funext c; unfold comb; split <;> rfl
theorem comb_x {x z : gIm} {c : Nat} (h : ¬ (40 ≤ c ∧ c < 77)) : comb x z c = x c := if_neg h
theorem comb_z {x z : gIm} {c : Nat} (h : 40 ≤ c ∧ c < 77) : comb x z c = z c := if_pos h
theorem va_comb_x {x z : gIm} {c : Nat} {r : Nat → Int32} (h : ¬ (40 ≤ c ∧ c < 77)) : va_up (comb x z) c r = comb (va_up x c r) z := by
  funext d
  by_cases hd : d = c
  · subst hd; rw [va_up_self, comb_x h, va_up_self]
  · rw [va_up_ne _ _ hd]; unfold comb; rw [va_up_ne _ _ hd]
theorem va_comb_z {x z : gIm} {c : Nat} {r : Nat → Int32} (h : 40 ≤ c ∧ c < 77) : va_up (comb x z) c r = comb x (va_up z c r) := by
  funext d
  by_cases hd : d = c
  · subst hd; rw [va_up_self, comb_z h, va_up_self]
  · rw [va_up_ne _ _ hd]; unfold comb; rw [va_up_ne _ _ hd]
theorem up_comb_x {x z : gIm} {c k : Nat} {v : Int32} (h : ¬ (40 ≤ c ∧ c < 77)) : up2 (comb x z) c k v = comb (up2 x c k v) z := by unfold up2; rw [va_comb_x h, comb_x h]
theorem up_comb_z {x z : gIm} {c k : Nat} {v : Int32} (h : 40 ≤ c ∧ c < 77) : up2 (comb x z) c k v = comb x (up2 z c k v) := by unfold up2; rw [va_comb_z h, comb_z h]
def clsF (X : gMm → gMm) : Prop := ∀ x z ρ Λ, X (comb x z, ρ, Λ) = (comb (X (x, ρ, Λ)).1 z, (X (x, ρ, Λ)).2)
def modF (Y : gIm → gIm) : Prop := ∀ x z, Y (comb x z) = comb x (Y z)
theorem cls_mod {X : gMm → gMm} {Y : gIm → gIm} (hX : clsF X) (hY : modF Y) (M : gMm) : X (Y M.1, M.2) = (Y (X M).1, (X M).2) := by
  obtain ⟨w, ρ, Λ⟩ := M
  dsimp only
  have e1 : Y w = comb w (Y w) := by have := hY w w; rwa [comb_self] at this
  have e2 : (X (w, ρ, Λ)).1 = comb (X (w, ρ, Λ)).1 w := by
    have := hX w w ρ Λ
    rw [comb_self] at this
    exact congrArg Prod.fst this
  rw [e1, hX]
  refine Prod.ext ?_ rfl
  show comb (X (w, ρ, Λ)).1 (Y w) = Y (X (w, ρ, Λ)).1
  rw [e2, hY, ← e2]
theorem clsF_comp {X X' : gMm → gMm} (h : clsF X) (h' : clsF X') : clsF (fun M => X' (X M)) := by
  intro x z ρ Λ
  dsimp only
  rw [h x z ρ Λ]
  exact h' _ _ _ _
theorem modF_comp {Y Y' : gIm → gIm} (h : modF Y) (h' : modF Y') : modF (fun z => Y' (Y z)) := by
  intro x z
  dsimp only
  rw [h x z, h' x]
theorem clsF_fo {X : Nat → gMm → gMm} (h : ∀ i, clsF (X i)) : ∀ n i, clsF (fo X n i)
  | 0, _ => fun _ _ _ _ => rfl
  | n + 1, i => fun x z ρ Λ => by
    rw [fo_s, fo_s, h i x z ρ Λ]
    exact clsF_fo h n (i + 1) _ _ _ _
theorem modF_fo {Y : Nat → gIm → gIm} (h : ∀ i, modF (Y i)) : ∀ n i, modF (fo Y n i)
  | 0, _ => fun _ _ => rfl
  | n + 1, i => fun x z => by
    rw [fo_s, fo_s, h i x z]
    exact modF_fo h n (i + 1) _ _
/-- one step of both behind another -/
theorem both_2 {X X' : gMm → gMm} {Y Y' : gIm → gIm} (hX' : clsF X') (hY : modF Y) (M : gMm) : (Y' (Y (X' (X M)).1), (X' (X M)).2) = (Y' (X' (Y (X M).1, (X M).2)).1, (X' (Y (X M).1, (X M).2)).2) := by
  rw [cls_mod hX' hY (X M)]
/-- the steps of the model -/
def mSk (w : Int32) (z : gIm) : gIm := va_up z 61 (fil (fun p => z 61 p + w) 6 (z 61))
def mBr (p : Nat) (z : gIm) : gIm := if ¬ z 59 p < 0 ∧ sStg z 0 p = 0 then mBreak p z else z
theorem mBr_61 (p : Nat) (z : gIm) : mBr p z 61 = z 61 := by
  unfold mBr mBreak mGone
  split
  · split
    · rw [up2_ne _ _ _ (by decide), up2_ne _ _ _ (by decide)]
    · rw [up2_ne _ _ _ (by decide), up2_ne _ _ _ (by decide), up2_ne _ _ _ (by decide), up2_ne _ _ _ (by decide), up2_ne _ _ _ (by decide), up2_ne _ _ _ (by decide)]
  · rfl
theorem up2_comm {z : gIm} {c d i j : Nat} {v u : Int32} (h : c ≠ d) : up2 (up2 z c i v) d j u = up2 (up2 z d j u) c i v := by
  funext e k
  simp only [up2_get]
  grind
theorem mBr_com {p q : Nat} (h : q ≠ p) (z : gIm) (v : Int32) : mBr p (up2 z 61 q v) = up2 (mBr p z) 61 q v := by
  have e59 : up2 z 61 q v 59 = z 59 := up2_ne _ _ _ (by decide)
  have e40 : up2 z 61 q v 40 = z 40 := up2_ne _ _ _ (by decide)
  have es : sStg (up2 z 61 q v) 0 p = sStg z 0 p := by
    unfold sStg
    rw [e59, up2_ne _ _ _ (show 53 ≠ 61 by decide), up2_ne _ _ _ (show 62 ≠ 61 by decide), up2_row, va_up_ne _ _ (fun g => h g.symm)]
  have eg : mGone (up2 z 61 q v) p = up2 (mGone z p) 61 q v := by
    unfold mGone
    rw [e59, up2_comm (c := 61) (d := 59) (by decide), up2_comm (c := 61) (d := 55) (by decide)]
  unfold mBr
  rw [e59, es]
  split
  · unfold mBreak
    rw [e59, e40, eg]
    split
    · rfl
    · rw [up2_comm (c := 61) (d := 63) (by decide), up2_comm (c := 61) (d := 63) (by decide), up2_comm (c := 61) (d := 63) (by decide), up2_comm (c := 61) (d := 40) (by decide)]
  · rfl
theorem mWk1_eq (w : Int32) (p : Nat) (z : gIm) : mWk1 w p z = mBr p (up2 z 61 p (z 61 p + w)) := by
  unfold mWk1 mBr
  rw [up2_ne _ _ _ (show 59 ≠ 61 by decide)]
def mSk1 (w : Int32) (p : Nat) (z : gIm) : gIm := up2 z 61 p (z 61 p + w)
theorem mSk_fo (w : Int32) (z : gIm) : mSk w z = fo (mSk1 w) 6 0 z := by
  have h : ∀ n i (y : gIm), y = va_up z 61 (fil (fun p => z 61 p + w) i (z 61)) → fo (mSk1 w) n i y = va_up z 61 (fil (fun p => z 61 p + w) (i + n) (z 61)) := by
    intro n
    induction n with
    | zero => intro i y hy; exact hy
    | succ n ih =>
      intro i y hy
      rw [fo_s, ih (i + 1) _ ?_, show i + 1 + n = i + (n + 1) by omega]
      unfold mSk1
      rw [hy, show va_up z 61 (fil (fun p => z 61 p + w) i (z 61)) 61 i = z 61 i from by rw [va_up_self]; unfold fil; rw [if_neg (by omega)]]
      exact up2_fil z 61 i (fun p => z 61 p + w) (z 61)
  rw [h 6 0 z (by rw [fil_0, va_up_id])]
  rfl
theorem mSk1_com {w : Int32} {p q : Nat} (h : q ≠ p) (z : gIm) : mBr p (mSk1 w q z) = mSk1 w q (mBr p z) := by
  unfold mSk1
  rw [mBr_com h, mBr_61]
theorem mSkBr (w : Int32) : ∀ n i z, fo (mWk1 w) n i z = fo mBr n i (fo (mSk1 w) n i z) := by
  have com : ∀ n i p z, p < i → mBr p (fo (mSk1 w) n i z) = fo (mSk1 w) n i (mBr p z) := by
    intro n
    induction n with
    | zero => intro i p z _; rw [fo_0, fo_0]
    | succ n ih => intro i p z hp; rw [fo_s, fo_s, ih (i + 1) p _ (by omega), mSk1_com (by omega)]
  intro n
  induction n with
  | zero => intro i z; rw [fo_0, fo_0, fo_0]
  | succ n ih =>
    intro i z
    rw [fo_s, fo_s, fo_s, com n (i + 1) i _ (by omega), ih]
    rw [mWk1_eq, show up2 z 61 i (z 61 i + w) = mSk1 w i z from by unfold mSk1; rfl]
theorem mWkP_eq (z : gIm) : mWkP z = fo mBr 6 0 (mSk (sWet (z 42) (z 40 3).toNatClampNeg) z) := by
  unfold mWkP
  rw [mSkBr, mSk_fo]
theorem mSk_modF {w : gIm → Int32} (hw : ∀ x z, w (comb x z) = w z) : modF (fun z => mSk (w z) z) := by
  intro x z
  dsimp only
  unfold mSk
  rw [hw, comb_z (by omega), va_comb_z (by omega)]
theorem sStg_comb (x z : gIm) : sStg (comb x z) = sStg z := by
  funext m p
  unfold sStg
  rw [comb_z (by omega), comb_z (by omega), comb_z (by omega), comb_z (by omega)]
theorem mBr_modF (p : Nat) : modF (mBr p) := by
  intro x z
  have eg : mGone (comb x z) p = comb x (mGone z p) := by
    unfold mGone
    rw [comb_z (by omega), up_comb_z (by omega), up_comb_z (by omega)]
  unfold mBr
  rw [sStg_comb, comb_z (by omega)]
  split
  · unfold mBreak
    rw [eg, comb_z (by omega), comb_z (by omega)]
    split
    · rfl
    · rw [up_comb_z (by omega), up_comb_z (by omega), up_comb_z (by omega), up_comb_z (by omega)]
  · rfl
theorem sStX_comb (x z : gIm) (sp : Nat → Option Nat) (hsp : True) : sStX (comb x z) sp = sStX x sp := by
  funext y m p
  unfold sStX
  split
  · rfl
  · rw [comb_x (by omega), comb_x (by omega), comb_x (by omega)]
theorem xWk1_clsF (p : Nat) : clsF (xWk1 p) := by
  intro x z ρ Λ
  unfold xWk1
  dsimp only
  have e2 : comb x z 2 = x 2 := comb_x (by omega)
  simp only [sStX_comb _ _ _ trivial, e2]
  have en : nbo (comb x z) = nbo x := by unfold nbo; rw [comb_x (by omega)]
  split
  · rw [en]
    refine Prod.ext ?_ rfl
    unfold xKeepI
    rw [up_comb_x (by omega)]
    split
    · rfl
    · rw [va_comb_x (by omega), up_comb_x (by omega), up_comb_x (by omega), up_comb_x (by omega)]
  · rfl
theorem xSk_clsF : clsF xSk := by
  intro x z ρ Λ
  unfold xSk xSoak
  dsimp only
  rw [comb_x (by omega), comb_x (by omega), comb_x (by omega), va_comb_x (by omega)]
theorem xWk_clsF : clsF xWk := by
  have h1 : clsF (fun M => xWkP (xSk M)) := clsF_comp (X := xSk) (X' := xWkP) xSk_clsF (clsF_fo xWk1_clsF 6 0)
  have h2 : clsF (fun M : gMm => (up2 M.1 2 1 (M.1 2 1 + 1), M.2)) := by
    intro x z ρ Λ
    dsimp only
    rw [comb_x (by omega), up_comb_x (by omega)]
  exact clsF_comp (X := fun M => xWkP (xSk M)) (X' := fun M : gMm => (up2 M.1 2 1 (M.1 2 1 + 1), M.2)) h1 h2
def mSkW (z : gIm) : gIm := mSk (sWet (z 42) (z 40 3).toNatClampNeg) z
theorem mSkW_modF : modF mSkW := mSk_modF (w := fun z => sWet (z 42) (z 40 3).toNatClampNeg) (fun x z => by rw [comb_z (by omega), comb_z (by omega)])
def mBump (z : gIm) : gIm := up2 z 40 3 (z 40 3 + 1)
theorem mBump_modF : modF mBump := by
  intro x z
  unfold mBump
  rw [comb_z (by omega), up_comb_z (by omega)]
theorem fo_mBr_40 : ∀ n i z, fo mBr n i z 40 3 = z 40 3
  | 0, _, _ => rfl
  | n + 1, i, z => by
    rw [fo_s, fo_mBr_40 n (i + 1)]
    unfold mBr mBreak mGone
    split
    · split
      · rw [up2_ne _ _ _ (by decide), up2_ne _ _ _ (by decide)]
      · rw [up2_row, va_up_ne _ _ (by decide), up2_ne _ _ _ (by decide), up2_ne _ _ _ (by decide), up2_ne _ _ _ (by decide), up2_ne _ _ _ (by decide), up2_ne _ _ _ (by decide)]
    · rfl
theorem mWk_eq (z : gIm) : mWk z = mBump (fo mBr 6 0 (mSkW z)) := by
  unfold mWk mBump
  rw [mWkP_eq]
  show up2 (fo mBr 6 0 (mSkW z)) 40 3 (z 40 3 + 1) = _
  rw [fo_mBr_40]
  congr 1
theorem mWk_modF : modF mWk := by
  rw [show mWk = fun z => mBump (fo mBr 6 0 (mSkW z)) from funext mWk_eq]
  exact modF_comp (Y := fun z => fo mBr 6 0 (mSkW z)) (Y' := mBump) (modF_comp (Y := mSkW) (Y' := fo mBr 6 0) mSkW_modF (modF_fo mBr_modF 6 0)) mBump_modF
