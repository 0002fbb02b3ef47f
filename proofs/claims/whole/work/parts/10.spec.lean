/-! what the methods answer, as functions of rows of the memory; the same for the class and for the model -/
theorem nle {a b : Nat} (h : Nat.ble a b = true) : a ≤ b := Nat.le_of_ble_eq_true h
theorem nlt {a b : Nat} (h : Nat.ble (a + 1) b = true) : a < b := Nat.le_of_ble_eq_true h
/-- n turns from i on -/
def fo {α : Type} (f : Nat → α → α) : Nat → Nat → α → α
  | 0, _, a => a
  | n + 1, i, a => fo f n (i + 1) (f i a)
theorem fo_0 {α : Type} (f : Nat → α → α) (i : Nat) (a : α) : fo f 0 i a = a := rfl
theorem fo_s {α : Type} (f : Nat → α → α) (n i : Nat) (a : α) : fo f (n + 1) i a = fo f n (i + 1) (f i a) := rfl
theorem fo_congr {α : Type} {f g : Nat → α → α} : ∀ (n i : Nat) (a : α), (∀ k a, i ≤ k → k < i + n → f k a = g k a) → fo f n i a = fo g n i a
  | 0, _, _, _ => rfl
  | n + 1, i, a, h => by
    rw [fo_s, fo_s, h i a (Nat.le_refl _) (by omega)]
    exact fo_congr n (i + 1) _ (fun k a h1 h2 => h k a (by omega) (by omega))
theorem fo_last {α : Type} (f : Nat → α → α) : ∀ (n i : Nat) (a : α), fo f (n + 1) i a = f (i + n) (fo f n i a)
  | 0, _, _ => rfl
  | n + 1, i, a => by
    rw [fo_s, fo_last f n (i + 1) (f i a), fo_s]
    congr 1
    omega
/-- a loop that counts up to e -/
theorem lp {α : Type} {W : Nat → α → Prop} (f : Nat → α → α) (J : Nat → α → Prop) (e : Nat) (hs : ∀ i a, i < e → J i a → W (i + 1) (f i a) → W i a) (hJ : ∀ i a, i < e → J i a → J (i + 1) (f i a)) :
    ∀ (n i : Nat) (a : α), i + n = e → J i a → (J e (fo f n i a) → W e (fo f n i a)) → W i a
  | 0, i, a, h, hj, hw => by
    have : i = e := by omega
    subst this
    exact hw hj
  | n + 1, i, a, h, hj, hw => hs i a (by omega) hj (lp f J e hs hJ n (i + 1) (f i a) (by omega) (hJ i a (by omega) hj) hw)
theorem lp0 {α : Type} {W : Nat → α → Prop} (f : Nat → α → α) (e : Nat) (hs : ∀ i a, i < e → W (i + 1) (f i a) → W i a) (i : Nat) (a : α) (hi : i ≤ e) (hw : W e (fo f (e - i) i a)) : W i a :=
  lp f (fun _ _ => True) e (fun i a h _ => hs i a h) (fun _ _ _ _ => trivial) (e - i) i a (by omega) trivial (fun _ => hw)
theorem lpJ {α : Type} {W : Nat → α → Prop} (f : Nat → α → α) (J : Nat → α → Prop) (e : Nat) (hs : ∀ i a, i < e → J i a → W (i + 1) (f i a) → W i a) (hJ : ∀ i a, i < e → J i a → J (i + 1) (f i a)) (i : Nat) (a : α) (hi : i ≤ e) (hj : J i a) (hw : J e (fo f (e - i) i a) → W e (fo f (e - i) i a)) : W i a :=
  lp f J e hs hJ (e - i) i a (by omega) hj hw
theorem fo_inv {α : Type} {f : Nat → α → α} (J : Nat → α → Prop) (e : Nat) (hJ : ∀ i a, i < e → J i a → J (i + 1) (f i a)) : ∀ (n i : Nat) (a : α), i + n = e → J i a → J e (fo f n i a)
  | 0, i, a, h, hj => by
    have : i = e := by omega
    subst this
    exact hj
  | n + 1, i, a, h, hj => fo_inv J e hJ n (i + 1) (f i a) (by omega) (hJ i a (by omega) hj)
def imax (x y : Int32) : Int32 := if x < y then y else x
def imin (x y : Int32) : Int32 := if x ≤ y then x else y
def rf (a : Nat) (ι : gIm) (n : Int32) : gIm := up2 ι a (-n).toNatClampNeg (ι a (-n).toNatClampNeg + 1)
def wr (v a b : Int32) : Int32 := if v < a then -4 else if b < v then -6 else 0
/-- an answer: the refusal, or the value -/
def rs (c v : Int32) : Int32 := if c = 0 then v else c
def rsF (c v : Int32) : Int32 := if c = 0 then v else 1000000000 - c
def rsM (c : Int32) (a : Nat) (ι ι' : gIm) : gIm := if c = 0 then ι' else rf a ι c
theorem i32_0 : Int32.toInt 0 = 0 := rfl
theorem gIn_of {k : Int32} {n : Nat} (m : Int32) (h : 0 ≤ k ∧ k < m) (hm : m.toInt = n) : gIn k n := by
  obtain ⟨h1, h2⟩ := h
  rw [Int32.le_iff_toInt_le] at h1
  rw [Int32.lt_iff_toInt_lt] at h2
  refine ⟨?_, ?_⟩
  · rw [Int32.lt_iff_toInt_lt]; simp at h1 ⊢; omega
  · have h0 : Int32.toInt 0 = 0 := rfl
    simp only [Int32.toNatClampNeg]; omega
theorem gIn_nI {k n : Nat} (h : k < n) (hk : k < 2 ^ 31) : gIn (nI k) n := ⟨nI_pos hk, by rw [nI_clamp hk]; exact h⟩
theorem wr_in (v a b : Int32) (h : ¬ wr v a b = 0) : gIn (-(wr v a b)) 7 := by
  unfold wr at h ⊢
  split
  · exact ⟨by decide, by decide⟩
  · split
    · exact ⟨by decide, by decide⟩
    · rename_i h1 h2
      rw [if_neg h1, if_neg h2] at h
      exact absurd rfl h
theorem nI_cl1 {k : Nat} (h : k < 1000000) : (nI k).toNatClampNeg = k := nI_clamp (by omega)
theorem nI_lt1 {a b : Nat} (ha : a < 1000000) (hb : b < 1000000) : nI a < nI b ↔ a < b := nI_ltI (by omega) (by omega)
theorem nI_le1 {a b : Nat} (ha : a < 1000000) (hb : b < 1000000) : nI a ≤ nI b ↔ a ≤ b := nI_leI (by omega) (by omega)
theorem x_lv {K : gK} {B : gB} {dp mc ms : Nat} {j : gJ} {pc : Nat} {lv lv' : List (Option gV)} {st : List gV} {cl sl : Nat} {ι : gIm} {ρ : gRm} {Λ : gLm} {Q : gQ} (h : lv = lv') (k : gX K B dp mc ms j pc lv' st cl sl ι ρ Λ Q) : gX K B dp mc ms j pc lv st cl sl ι ρ Λ Q := h ▸ k
/-! rain -/
def cRain (w v : Int32) : Int32 := if 0 ≤ w ∧ w < 52 then wr v (-1) 9 else -1
/-- RAIN that counts -/
def sMost (f : Nat → Int32) (b : Nat) : Int32 := fo (fun i a => imax a (f i)) 13 b (-1)
def sCounts (f : Nat → Int32) (w : Nat) : Int32 := if 0 ≤ f w then f w else if sMost f (w / 13 * 13) < 0 then 5 else sMost f (w / 13 * 13)
def sWet (f : Nat → Int32) (w : Nat) : Int32 := if 7 ≤ sCounts f w then 2 * sCounts f w else sCounts f w
def cWeek (w : Int32) : Int32 := if 0 ≤ w ∧ w < 52 then 0 else -1
/-! houses -/
def cHouse (v n c : Int32) : Int32 := if 0 ≤ v ∧ v < 4 then (if n < 1 then -4 else if 9 < n ∨ c = 24 then -6 else 0) else -1
def cIs (h c : Int32) : Int32 := if 0 ≤ h ∧ h < c then 0 else -1
def cSet (h what v c : Int32) : Int32 := if 0 ≤ h ∧ h < c then (if 0 ≤ what ∧ what < 3 then wr v (if what = 2 then 0 else 1) (if what = 2 then 1 else 9) else -2) else -1
def cBring (h f d c here used : Int32) : Int32 := if 0 ≤ h ∧ h < c then (if here = 0 ∨ 0 < used then -3 else if f < 0 ∨ d < 0 then -4 else if 2000 < f ∨ 20 < d then -6 else 0) else -1
def cBrought (v what : Int32) : Int32 := if v = -1 ∨ (0 ≤ v ∧ v < 4) then (if 0 ≤ what ∧ what < 3 then 0 else -2) else -1
def sFath (what f d : Int32) : Int32 := if what = 0 then imax 0 (f - d) else if what = 1 then f else f + d
/-- FATHOMS of a village or all; vil, has, fathoms, doubt by house -/
def sBrought (vil has fth dbt : Nat → Int32) (n : Nat) (v what : Int32) : Int32 := fo (fun i a => if has i = 0 ∨ (0 ≤ v ∧ ¬ vil i = v) then a else a + sFath what (fth i) (dbt i)) n 0 0
def sHands (here hd : Nat → Int32) (n : Nat) : Int32 := fo (fun i a => a + (if here i = 0 then 0 else hd i)) n 0 0
/-- what is left of asked, and who goes ahead of h -/
def sLeft (here hd ow : Nat → Int32) (n : Nat) (asked all : Int32) (h : Nat) : Int32 × Int32 := fo (fun i a => if here i = 0 then a else (a.1 - asked * hd i / all, a.2 + (if ow h < ow i ∨ (ow i = ow h ∧ i < h) then 1 else 0))) n 0 (asked, 0)
def sShare (here hd ow : Nat → Int32) (n : Nat) (asked : Int32) (h : Nat) : Int32 :=
  if here h = 0 then 0 else asked * hd h / sHands here hd n + (if (sLeft here hd ow n asked (sHands here hd n) h).2 < (sLeft here hd ow n asked (sHands here hd n) h).1 then 1 else 0)
theorem gIn.nI {w : Int32} {n : Nat} (h : gIn w n) : w = nI w.toNatClampNeg := by
  obtain ⟨j, hj, rfl⟩ := nI_of h.1
  rw [nI_clamp hj]
theorem gIn_le {k c : Int32} {n : Nat} (m : Int32) (h : 0 ≤ k ∧ k < c) (hc : c ≤ m) (hm : m.toInt = n) : gIn k n := gIn_of m ⟨h.1, Int32.lt_of_lt_of_le h.2 hc⟩ hm
theorem gIn_nn {k : Int32} {n m : Nat} (h : 0 ≤ k ∧ k < nI n) (hn : n ≤ m) (hm : n < 1000000) : gIn k m := by
  have h1 := gIn_of (nI n) h (nI_toInt (by omega))
  exact ⟨h1.1, by have := h1.2; omega⟩
/-- a row, the first n places anew -/
def fil (g : Nat → Int32) (n : Nat) (r : Nat → Int32) : Nat → Int32 := fun k => if k < n then g k else r k
theorem fil_0 (g r : Nat → Int32) : fil g 0 r = r := by funext k; simp [fil]
theorem va_up_id {α : Type} (ι : Nat → α) (c : Nat) : va_up ι c (ι c) = ι := by
  funext d
  by_cases h : d = c
  · subst h; rw [va_up_self]
  · rw [va_up_ne _ _ h]
theorem fil_s (g r : Nat → Int32) (i : Nat) : va_up (fil g i r) i (g i) = fil g (i + 1) r := by
  funext k
  by_cases h : k = i
  · subst h; rw [va_up_self]; simp [fil]
  · rw [va_up_ne _ _ h]
    unfold fil
    by_cases h2 : k < i
    · rw [if_pos h2, if_pos (by omega)]
    · rw [if_neg h2, if_neg (by omega)]
theorem up2_fil (ι : gIm) (c i : Nat) (g r : Nat → Int32) : up2 (va_up ι c (fil g i r)) c i (g i) = va_up ι c (fil g (i + 1) r) := by
  unfold up2
  rw [va_up_self, fil_s]
  funext d
  by_cases h : d = c
  · subst h; rw [va_up_self, va_up_self]
  · rw [va_up_ne _ _ h, va_up_ne _ _ h, va_up_ne _ _ h]
theorem lpn {W : Nat → Prop} (e : Nat) (hs : ∀ i, i < e → W (i + 1) → W i) (i : Nat) (hi : i ≤ e) (hw : W e) : W i := by
  have h : ∀ n i, i + n = e → W i := by
    intro n
    induction n with
    | zero => intro i h; have : i = e := by omega
              subst this; exact hw
    | succ n ih => intro i h; exact hs i (by omega) (ih (i + 1) (by omega))
  exact h (e - i) i (by omega)
theorem x_mem {K : gK} {B : gB} {dp mc ms : Nat} {j : gJ} {pc : Nat} {lv : List (Option gV)} {st : List gV} {cl sl : Nat} {ι ι' : gIm} {ρ : gRm} {Λ : gLm} {Q : gQ} (h : ι = ι') (k : gX K B dp mc ms j pc lv st cl sl ι' ρ Λ Q) : gX K B dp mc ms j pc lv st cl sl ι ρ Λ Q := h ▸ k
def inc (ι : gIm) (c k : Nat) : gIm := up2 ι c k (ι c k + 1)
/-! ropes -/
def sSame (a b c h : Int32) : Int32 := (if a = h then 1 else 0) + (if b = h then 1 else 0) + (if c = h then 1 else 0)
def sCords (has fth used : Int32) : Int32 := if has = 0 then 0 else fth / 10 - used
def cSmall (a b c n la lb lc ropes : Int32) : Int32 := if (0 ≤ a ∧ a < n) ∧ (0 ≤ b ∧ b < n) ∧ (0 ≤ c ∧ c < n) then (if la < sSame a b c a ∨ lb < sSame a b c b ∨ lc < sSame a b c c then -3 else if ropes = 200 then -6 else 0) else -1
def sFree (used laid year : Int32) : Int32 := if used = 0 ∧ laid = year then 1 else 0
theorem house_lt {nh : Nat} (h : ¬ nI nh = 24) (hn : nh ≤ 24) : nh < 24 := by
  rcases Nat.lt_or_ge nh 24 with h1 | h1
  · exact h1
  · exact absurd (by rw [show nh = 24 by omega]; rfl) h
theorem lvS {a : Option gV} {t t' : List (Option gV)} (h : t = t') : a :: t = a :: t' := by rw [h]
theorem lvI {x y : Int32} {t t' : List (Option gV)} (hx : x = y) (h : t = t') : some (vI x) :: t = some (vI y) :: t' := by rw [h, hx]
/-- lv' is lv with some places unknown -/
def lessB : List (Option gV) → List Bool → List (Option gV)
  | a :: t, b :: u => (if b then a else none) :: lessB t u
  | _, _ => []
theorem less_ok {lv lv' : List (Option gV)} {m : List Bool} (h : lessB lv m = lv') : ∀ (i : Nat) (v : gV), lv'[i]? = some (some v) → lv[i]? = some (some v) := by
  subst h
  induction lv generalizing m with
  | nil => intro i v h; simp [lessB] at h
  | cons a t ih =>
    intro i v h
    cases m with
    | nil => simp [lessB] at h
    | cons b u =>
      cases i with
      | zero =>
        simp only [lessB, List.getElem?_cons_zero] at h ⊢
        cases b with
        | true => simpa using h
        | false => simp at h
      | succ i =>
        simp only [lessB, List.getElem?_cons_succ] at h ⊢
        exact ih i v h

/-! closing a year, in the model -/
def kShare (ι : gIm) (nh h : Nat) : Int32 := sShare (ι 50) (ι 44) (ι 49) nh (ι 40 6) h
def mCl1 (ι : gIm) (nh n : Nat) : gIm := va_up ι 64 (fil (kShare ι nh) n (ι 64))
def kOwe (ι : gIm) (h : Nat) : Int32 := ι 49 h + (ι 64 h - (if ι 51 h = 0 then 0 else ι 46 h))
def mCl2 (ι : gIm) (n : Nat) : gIm := va_up (va_up (va_up (va_up ι 49 (fil (kOwe ι) n (ι 49))) 51 (fil (fun _ => 0) n (ι 51))) 46 (fil (fun _ => 0) n (ι 46))) 48 (fil (fun _ => 0) n (ι 48))
def mCl3 (ι : gIm) (n : Nat) : gIm := va_up ι 42 (fil (fun _ => -1) n (ι 42))
def mCl4 (ι : gIm) (n : Nat) : gIm := va_up ι 62 (fil (fun p => ι 62 p + 1) n (ι 62))
def mClose (ι : gIm) (nh : Nat) : gIm := up2 (up2 (mCl4 (mCl3 (mCl2 (mCl1 ι nh nh) nh) 52) 6) 40 2 (ι 40 2 + 1)) 40 3 0
theorem va_up2_get {α : Type} (f : Nat → Nat → α) (c d k : Nat) (r : Nat → α) : va_up f c r d k = if d = c then r k else f d k := by unfold va_up; split <;> rfl
theorem up2_get {α : Type} (f : Nat → Nat → α) (c k d i : Nat) (v : α) : up2 f c k v d i = if d = c ∧ i = k then v else f d i := by
  by_cases h : d = c
  · subst h
    rw [up2_row]
    by_cases h2 : i = k
    · subst h2; rw [va_up_self, if_pos ⟨rfl, rfl⟩]
    · rw [va_up_ne _ _ h2, if_neg (fun q => h2 q.2)]
  · rw [up2_ne _ _ _ h, if_neg (fun q => h q.1)]
theorem mCl2_0 (ι : gIm) : mCl2 ι 0 = ι := by simp only [mCl2, fil_0]; funext c k; simp only [va_up2_get]; grind
theorem mCl2_s (ι : gIm) (i : Nat) : mCl2 ι (i + 1) = up2 (up2 (up2 (up2 (mCl2 ι i) 49 i (kOwe ι i)) 51 i 0) 46 i 0) 48 i 0 := by
  funext c k
  simp only [mCl2, va_up2_get, up2_get, fil]
  by_cases h1 : c = 48
  · subst h1; grind
  · by_cases h2 : c = 46
    · subst h2; grind
    · by_cases h3 : c = 51
      · subst h3; grind
      · by_cases h4 : c = 49
        · subst h4; grind
        · grind
/-! ropes, in the model -/
def mAdds (ι : gIm) (nr : Nat) (kind s a b c : Int32) : gIm := up2 (up2 (up2 (up2 (up2 (up2 (up2 (up2 ι 52 nr kind) 53 nr s) 54 nr (ι 40 2)) 55 nr (-9)) 56 (3 * nr) a) 56 (3 * nr + 1) b) 56 (3 * nr + 2) c) 40 5 (nI nr + 1)
def mSmall (ι : gIm) (nr : Nat) (a b c : Int32) : gIm :=
  mAdds (up2 (up2 (up2 (inc (inc (inc ι 48 a.toNatClampNeg) 48 b.toNatClampNeg) 48 c.toNatClampNeg) 57 (3 * nr) (ι 45 a.toNatClampNeg)) 57 (3 * nr + 1) (ι 45 b.toNatClampNeg)) 57 (3 * nr + 2) (ι 45 c.toNatClampNeg)) nr 0 (imin (ι 45 a.toNatClampNeg) (imin (ι 45 b.toNatClampNeg) (ι 45 c.toNatClampNeg))) a b c
def cLay (a b c n ka kb kc fa fb fc ropes : Int32) : Int32 :=
  if (0 ≤ a ∧ a < n) ∧ (0 ≤ b ∧ b < n) ∧ (0 ≤ c ∧ c < n) ∧ ¬ a = b ∧ ¬ b = c ∧ ¬ a = c then (if ka = kb ∧ kb = kc ∧ ¬ ka = 2 then (if fa = 1 ∧ fb = 1 ∧ fc = 1 then (if ropes = 200 then -6 else 0) else -3) else -2) else -1
def mLay (ι : gIm) (nr : Nat) (a b c : Int32) : gIm :=
  mAdds (up2 (up2 (up2 ι 58 a.toNatClampNeg 1) 58 b.toNatClampNeg 1) 58 c.toNatClampNeg 1) nr (ι 52 a.toNatClampNeg + 1) (imax 1 (ι 53 a.toNatClampNeg + ι 53 b.toNatClampNeg + ι 53 c.toNatClampNeg - 2)) a b c
/-- CORDS of a house in a rope, d levels deep -/
def sStr (kind part : Nat → Int32) : Nat → Nat → Int32 → Int32
  | 0, r, h => fo (fun i a => a + (if part (3 * r + i) = h then 1 else 0)) 3 0 0
  | d + 1, r, h => fo (fun i a => a + sStr kind part d (part (3 * r + i)).toNatClampNeg h) 3 0 0
def cTwo (r nr h nh : Int32) : Int32 := if (0 ≤ r ∧ r < nr) ∧ (0 ≤ h ∧ h < nh) then 0 else -1
theorem rope_lt {nr : Nat} (h : ¬ nI nr = 200) (hn : nr ≤ 200) : nr < 200 := by
  rcases Nat.lt_or_ge nr 200 with h1 | h1
  · exact h1
  · exact absurd (by rw [show nr = 200 by omega]; rfl) h
theorem i3_0 (k : Nat) : 3 * nI k = nI (3 * k) := by rw [show (3 : Int32) = nI 3 from rfl, pk_mul]
theorem i3_1 (k : Nat) : 3 * nI k + 1 = nI (3 * k + 1) := by rw [i3_0, nI_1]
theorem i3_2 (k : Nat) : 3 * nI k + 2 = nI (3 * k + 2) := by rw [i3_0, show (2 : Int32) = nI 2 from rfl, nI_add]
theorem i3_i (k i : Nat) : 3 * nI k + nI i = nI (3 * k + i) := by rw [i3_0, nI_add]
theorem eq_nat {x : Int32} {n : Nat} (h : x = nI n) (hn : n < 1000000) : x.toNatClampNeg = n := by rw [h]; exact nI_cl1 hn
theorem eq_gin {x : Int32} {n m : Nat} (h : x = nI n) (hn : n < m) (hm : n < 1000000) : gIn x m := by rw [h]; exact gIn_nI hn (by omega)
theorem kd_le {x : Int32} (h : x = 0 ∨ x = 1 ∨ x = 2) : x.toNatClampNeg + 1 + 1 ≤ 4 := by rcases h with h | h | h <;> rw [h] <;> decide
/-! the bridge -/
def vStg (s w y m : Int32) : Int32 := imax 0 (10 * s - (w + m) / 3 - 40 * y)
/-- STRENGTH in the model -/
def sStg (ι : gIm) (m : Int32) (p : Nat) : Int32 := if ι 59 p < 0 then 0 else vStg (ι 53 (ι 59 p).toNatClampNeg) (ι 61 p) (ι 62 p) m
theorem imax_nn (x : Int32) : 0 ≤ imax 0 x := by unfold imax; split <;> grind
theorem sStg_nn (ι : gIm) (m : Int32) (p : Nat) : 0 ≤ sStg ι m p := by
  unfold sStg vStg
  split
  · exact Int32.le_refl _
  · exact imax_nn _
theorem imin_nn {x y : Int32} (hx : 0 ≤ x) (hy : 0 ≤ y) : 0 ≤ imin x y := by unfold imin; split <;> assumption
/-- STRENGTH of the bridge: of four strengths and tensions, if all hang -/
def vBear (s t : Nat → Int32) : Int32 := imax 0 (4 * imin (imin (imin (s 0) (s 1)) (s 2)) (s 3) - (imax (imax (imax (imax 0 (t 0)) (t 1)) (t 2)) (t 3) - imin (imin (imin (imin 99 (t 0)) (t 1)) (t 2)) (t 3)))
def sBear (ι : gIm) (m : Int32) : Int32 := if ι 59 0 < 0 ∨ ι 59 1 < 0 ∨ ι 59 2 < 0 ∨ ι 59 3 < 0 then 0 else vBear (sStg ι m) (ι 60)
def vLet (v b s4 s5 : Int32) : Int32 := if v ≤ b ∧ 0 < s4 ∧ 0 < s5 then 1 else 0
def sLet (ι : gIm) (v m : Int32) : Int32 := vLet v (sBear ι m) (sStg ι m 4) (sStg ι m 5)
def cHang (r p nr kind free hung : Int32) : Int32 := if (0 ≤ r ∧ r < nr) ∧ (0 ≤ p ∧ p < 6) then (if kind = 2 then (if free = 1 ∧ hung < 0 then 0 else -3) else -2) else -1
def mHang (ι : gIm) (r p : Int32) : gIm := up2 (up2 (up2 (up2 (up2 (up2 ι 58 r.toNatClampNeg 1) 59 p.toNatClampNeg r) 55 r.toNatClampNeg p) 60 p.toNatClampNeg 50) 61 p.toNatClampNeg 0) 62 p.toNatClampNeg 0
def mGone (ι : gIm) (p : Nat) : gIm := up2 (up2 ι 59 p (-9)) 55 (ι 59 p).toNatClampNeg (-9)
def cPl (p : Int32) : Int32 := if 0 ≤ p ∧ p < 6 then 0 else -1
def cCut (p hung : Int32) : Int32 := if 0 ≤ p ∧ p < 6 then (if hung < 0 then -3 else 0) else -1
def cTens (p v hung : Int32) : Int32 := if 0 ≤ p ∧ p < 6 then (if hung < 0 then -3 else wr v 0 99) else -1
def mBreak (p : Nat) (ι : gIm) : gIm := if ι 40 7 = 40 then mGone ι p else up2 (up2 (up2 (up2 (mGone ι p) 63 (3 * (ι 40 7).toNatClampNeg) (ι 59 p)) 63 (3 * (ι 40 7).toNatClampNeg + 1) (ι 40 2)) 63 (3 * (ι 40 7).toNatClampNeg + 2) (ι 40 3)) 40 7 (ι 40 7 + 1)
/-- one place in one WEEK -/
def mWk1 (w : Int32) (p : Nat) (ι : gIm) : gIm := if ¬ ι 59 p < 0 ∧ sStg (up2 ι 61 p (ι 61 p + w)) 0 p = 0 then mBreak p (up2 ι 61 p (ι 61 p + w)) else up2 ι 61 p (ι 61 p + w)
def mWkP (ι : gIm) : gIm := fo (mWk1 (sWet (ι 42) (ι 40 3).toNatClampNeg)) 6 0 ι
def mWk (ι : gIm) : gIm := up2 (mWkP ι) 40 3 (ι 40 3 + 1)
def mWks (n : Nat) (ι : gIm) : gIm := fo (fun _ z => mWk z) n 0 ι
/-- what the passing of WEEKS wants of the memory, and keeps -/
def okW (r : Nat → Int32) (wk : Nat) (z : gIm) : Prop := z 42 = r ∧ z 40 3 = nI wk ∧ (∃ nb, nb ≤ 40 ∧ z 40 7 = nI nb) ∧ ∀ p, p < 6 → ¬ z 59 p < 0 → gIn (z 59 p) 200
theorem wr0 {v a b : Int32} (h : wr v a b = 0) : a ≤ v ∧ v ≤ b := by
  unfold wr at h
  grind
theorem okW_wet {r : Nat → Int32} {wk p : Nat} {z : gIm} {w : Int32} (h : okW r wk z) : okW r wk (up2 z 61 p w) := by
  obtain ⟨h1, h2, h3, h4⟩ := h
  refine ⟨?_, ?_, ?_, ?_⟩
  · rw [up2_ne _ _ _ (by decide)]; exact h1
  · rw [up2_ne _ _ _ (by decide)]; exact h2
  · rw [up2_ne _ _ _ (by decide)]; exact h3
  · rw [up2_ne _ _ _ (by decide)]; exact h4
theorem okW_gone {r : Nat → Int32} {wk p : Nat} {z : gIm} (h : okW r wk z) : okW r wk (mGone z p) := by
  obtain ⟨h1, h2, h3, h4⟩ := h
  unfold mGone
  refine ⟨?_, ?_, ?_, ?_⟩
  · rw [up2_ne _ _ _ (by decide), up2_ne _ _ _ (by decide)]; exact h1
  · rw [up2_ne _ _ _ (by decide), up2_ne _ _ _ (by decide)]; exact h2
  · rw [up2_ne _ _ _ (by decide), up2_ne _ _ _ (by decide)]; exact h3
  · intro q hq
    rw [up2_ne _ _ _ (by decide), up2_row]
    by_cases hqp : q = p
    · subst hqp; rw [va_up_self]; intro h; exact absurd (by decide) h
    · rw [va_up_ne _ _ hqp]; exact h4 q hq
theorem okW_break {r : Nat → Int32} {wk p : Nat} {z : gIm} (h : okW r wk z) : okW r wk (mBreak p z) := by
  unfold mBreak
  split
  · exact okW_gone h
  · rename_i hb
    obtain ⟨h1, h2, -, h4⟩ := okW_gone (p := p) h
    obtain ⟨nb, h5, h6⟩ := h.2.2.1
    refine ⟨?_, ?_, ⟨nb + 1, ?_, ?_⟩, ?_⟩
    · rw [up2_ne _ _ _ (by decide), up2_ne _ _ _ (by decide), up2_ne _ _ _ (by decide), up2_ne _ _ _ (by decide)]; exact h1
    · rw [up2_row, va_up_ne _ _ (by decide), up2_ne _ _ _ (by decide), up2_ne _ _ _ (by decide), up2_ne _ _ _ (by decide)]; exact h2
    · have : nb ≠ 40 := fun e => hb (by rw [h6, e]; rfl)
      omega
    · rw [up2_row, va_up_self, h6, nI_succ]
    · rw [up2_ne _ _ _ (by decide), up2_ne _ _ _ (by decide), up2_ne _ _ _ (by decide), up2_ne _ _ _ (by decide)]; exact h4
theorem okW_1 {r : Nat → Int32} {wk p : Nat} {z : gIm} {w : Int32} (h : okW r wk z) : okW r wk (mWk1 w p z) := by
  unfold mWk1
  split
  · exact okW_break (okW_wet h)
  · exact okW_wet h
theorem okW_P {r : Nat → Int32} {wk : Nat} {z : gIm} (h : okW r wk z) : okW r wk (mWkP z) := fo_inv (fun _ z => okW r wk z) 6 (fun i a _ h => okW_1 h) 6 0 z rfl h
theorem okW_k {r : Nat → Int32} {wk : Nat} {z : gIm} (h : okW r wk z) : okW r (wk + 1) (mWk z) := by
  obtain ⟨h1, h2, h3, h4⟩ := okW_P h
  refine ⟨?_, ?_, ?_, ?_⟩
  · unfold mWk; rw [up2_ne _ _ _ (by decide)]; exact h1
  · unfold mWk; rw [up2_row, va_up_self, h.2.1, nI_succ]
  · unfold mWk; rw [up2_row, va_up_ne _ _ (by decide)]; exact h3
  · unfold mWk; rw [up2_ne _ _ _ (by decide)]; exact h4
theorem brk_lt {n : Nat} (h : ¬ nI n = 40) (hn : n ≤ 40) : n < 40 := by
  rcases Nat.lt_or_ge n 40 with h1 | h1
  · exact h1
  · exact absurd (by rw [show n = 40 by omega]; rfl) h
/-- in how many WEEKS: lt m: whether it is let with so much more wet; wt: the wet of a WEEK -/
def sTill (lt : Int32 → Int32) (wt : Nat → Int32) (wk : Nat) : Nat → Nat → Int32 → Int32
  | 0, _, _ => -9
  | n + 1, k, m => if lt m = 0 then nI k else sTill lt wt wk n (k + 1) (if wk + k < 52 then m + wt (wk + k) else m)
def cBroken (what : Int32) : Int32 := if 0 ≤ what ∧ what < 3 then 0 else -2
def vBroken (brk : Nat → Int32) (nb i what : Int32) : Int32 := if 0 ≤ i ∧ i < nb then brk (3 * i.toNatClampNeg + what.toNatClampNeg) else -9
/-- the k-th SMALL ROPE of a GREAT one -/
def sSm (part : Nat → Int32) (r k : Nat) : Nat := (part (3 * (part (3 * r + k / 3)).toNatClampNeg + k % 3)).toNatClampNeg
def sLeast (snd part : Nat → Int32) (r n : Nat) : Int32 := fo (fun k a => imin a (snd (sSm part r k))) n 0 9
def sBl1 (snd part cares : Nat → Int32) (r : Nat) (least h : Int32) (k c : Nat) : Int32 := if snd (sSm part r k) = least ∧ part (3 * sSm part r k + c) = h ∧ cares (3 * sSm part r k + c) = least then 1 else 0
def sBlame (snd part cares : Nat → Int32) (r : Nat) (h : Int32) : Int32 := fo (fun k a => fo (fun c a => a + sBl1 snd part cares r (sLeast snd part r 9) h k c) 3 0 a) 9 0 0
def mSmalls (ι : gIm) (r n : Nat) : gIm := va_up ι 65 (fil (fun k => nI (sSm (ι 56) r k)) n (ι 65))
theorem brk_nat {i what : Int32} {nb : Nat} (h2 : 0 ≤ what ∧ what < 3) (h1 : 0 ≤ i ∧ i < nI nb) (hb : nb ≤ 40) : (3 * i + what).toNatClampNeg = 3 * i.toNatClampNeg + what.toNatClampNeg := by
  have a := gIn_nn (m := nb) h1 (Nat.le_refl _) (by omega)
  have b := gIn_of (n := 3) 3 h2 rfl
  have a2 := a.2
  have b2 := b.2
  rw [a.nI, b.nI, i3_i, nI_cl1 (by omega), nI_cl1 (by omega), nI_cl1 (by omega)]
theorem brk_in {i what : Int32} {nb : Nat} (h2 : 0 ≤ what ∧ what < 3) (h1 : 0 ≤ i ∧ i < nI nb) (hb : nb ≤ 40) : gIn (3 * i + what) 120 := by
  have a := gIn_nn (m := nb) h1 (Nat.le_refl _) (by omega)
  have b := gIn_of (n := 3) 3 h2 rfl
  have a2 := a.2
  have b2 := b.2
  rw [a.nI, b.nI, i3_i]
  exact gIn_nI (by omega) (by omega)
theorem sLeast_s (snd part : Nat → Int32) (r k : Nat) : sLeast snd part r (k + 1) = imin (sLeast snd part r k) (snd (sSm part r k)) := by unfold sLeast; rw [fo_last, Nat.zero_add]
/-! steps, people, counts -/
def cStep (kind arg d n a cnt : Int32) : Int32 :=
  if 0 ≤ kind ∧ kind < 3 then (if (if kind = 2 then 0 ≤ arg ∧ arg < 600 else 0 ≤ arg ∧ arg < 6) ∧ 0 ≤ a ∧ a < 1 <<< (cnt &&& 31) then (if d < 1 ∨ n < 1 then -4 else if 9 < d ∨ 60 < n ∨ cnt = 12 then -6 else 0) else -1) else -2
def mStep (ι : gIm) (ns : Nat) (kind arg d n a : Int32) : gIm := up2 (up2 (up2 (up2 (up2 (up2 ι 66 ns kind) 67 ns (if kind = 2 then arg / 100 else arg)) 68 ns d) 69 ns n) 70 ns a) 40 8 (nI ns + 1)
def cPerson (p b cnt bp : Int32) : Int32 := if p = -1 ∨ (0 ≤ p ∧ p < cnt) then (if b < -60 then -4 else if 60 < b ∨ cnt = 30 then -6 else if 0 ≤ p ∧ b < bp then -3 else 0) else -1
def mPerson (ι : gIm) (np : Nat) (p b : Int32) : gIm := up2 (up2 (up2 (up2 ι 74 np p) 75 np b) 76 np 1) 40 9 (nI np + 1)
def sBef (born : Nat → Int32) (a b : Int32) : Int32 := if (if ¬ born a.toNatClampNeg = born b.toNatClampNeg then born a.toNatClampNeg < born b.toNatClampNeg else a < b) then 1 else 0
def sCh1 (par born : Nat → Int32) (p behind : Int32) (c : Nat) (best : Int32) : Int32 := if par c = p ∧ (behind < 0 ∨ sBef born behind (nI c) = 1) ∧ (best < 0 ∨ sBef born (nI c) best = 1) then nI c else best
def sChild (par born : Nat → Int32) (n : Nat) (p behind : Int32) : Int32 := fo (sCh1 par born p behind) n 0 (-9)
def vRope (kind snd free place laid what : Int32) : Int32 := if what = 0 then kind else if what = 1 then snd else if what = 2 then free else if what = 3 then place else laid
def cRope (r nr what : Int32) : Int32 := if 0 ≤ r ∧ r < nr then (if 0 ≤ what ∧ what < 5 then 0 else -2) else -1
def vCount (ref : Nat → Int32) (yr wk h r hands b st p what : Int32) : Int32 := if 10 < what ∧ what < 17 then ref (what - 10).toNatClampNeg else if what = 0 then yr else if what = 1 then wk else if what = 2 then h else if what = 3 then r else if what = 4 then hands else if what = 5 then b else if what = 6 then st else if what = 7 then p else -9
theorem lt_lit {n m : Nat} {x : Int32} (hx : x = nI m) (h : ¬ nI n = x) (hn : n ≤ m) : n < m := by
  rcases Nat.lt_or_ge n m with h1 | h1
  · exact h1
  · exact absurd (by rw [hx, show n = m by omega]) h
theorem i32_eq {x : Int32} (k : Int32) {n : Int} (h : x.toInt = n) (hk : k.toInt = n) : x = k := Int32.toInt_inj.mp (h.trans hk.symm)
theorem ne_i {x k : Int32} {n : Int} (h : ¬ x.toInt = n) (hk : k.toInt = n) : ¬ x = k := fun e => h (by rw [e, hk])
theorem sw_out5 {x : Int32} (h0 : ¬ x.toInt = 0) (h1 : ¬ x.toInt = 1) (h2 : ¬ x.toInt = 2) (h3 : ¬ x.toInt = 3) (h4 : ¬ x.toInt = 4) : ¬ (0 ≤ x ∧ x < 5) := by
  rintro ⟨a, b⟩
  rw [Int32.le_iff_toInt_le, i32_0] at a
  rw [Int32.lt_iff_toInt_lt, show Int32.toInt 5 = 5 from rfl] at b
  omega
theorem cnt_in {x : Int32} (h1 : 10 < x) (h2 : x < 17) : gIn (x - 10) 7 := gIn_of 7 ⟨by grind, by grind⟩ rfl
theorem pers_in {p c : Int32} (h : ¬ p < 0) (h2 : p = -1 ∨ (0 ≤ p ∧ p < c)) : 0 ≤ p ∧ p < c := by grind
/-! the class -/
def fi (a b : Int32) : Int32 := if a = -4 ∨ b = -4 then -4 else if a = -6 ∨ b = -6 then -6 else 0
def xBrought (vil fth dbt : Nat → Int32) (n : Nat) (v what : Int32) : Int32 := fo (fun i a => if v = -1 ∨ vil i = v then a + sFath what (fth i) (dbt i) else a) n 0 0
/-- a row of the houses -/
def hr (ι : gIm) (k : Nat) : Nat → Int32 := fun i => ι (100 + i) k
def xTurn1 (ι : gIm) (n : Nat) : gIm := va_up ι 3 (fil (fun _ => -1) n (ι 3))
def xTurn (ι : gIm) : gIm := xTurn1 (up2 (up2 ι 2 0 (ι 2 0 + 1)) 2 1 0) 52
def xkShare (ι : gIm) (nh h : Nat) : Int32 := sShare (hr ι 4) (hr ι 2) (hr ι 8) nh (ι 4 3) h
def xSet1 (ι : gIm) (nh n : Nat) : gIm := va_up ι 6 (fil (xkShare ι nh) n (ι 6))
def xSetR (ι : gIm) (c : Nat) : Nat → Int32 := va_up (va_up (va_up (va_up (ι c) 8 (ι c 8 + (ι 6 (c - 100) - ι c 5))) 5 0) 6 0) 7 0
def xSet2 (ι : gIm) (n : Nat) : gIm := fun c => if 100 ≤ c ∧ c < 100 + n then xSetR ι c else ι c
def xSettle (ι : gIm) (nh : Nat) : gIm := xSet2 (xSet1 ι nh nh) nh
theorem xSet2_0 (ι : gIm) : xSet2 ι 0 = ι := by funext c; unfold xSet2; rw [if_neg (by omega)]
theorem xSet2_in {ι : gIm} {n i : Nat} (h : i < n) : xSet2 ι n (100 + i) = xSetR ι (100 + i) := by unfold xSet2; rw [if_pos (by omega)]
theorem xSet2_out {ι : gIm} {n c : Nat} (h : ¬ (100 ≤ c ∧ c < 100 + n)) : xSet2 ι n c = ι c := by unfold xSet2; rw [if_neg h]
theorem xSet2_s (ι : gIm) (i : Nat) : up2 (up2 (up2 (up2 (xSet2 ι i) (100 + i) 8 (ι (100 + i) 8 + (ι 6 i - ι (100 + i) 5))) (100 + i) 5 0) (100 + i) 6 0) (100 + i) 7 0 = xSet2 ι (i + 1) := by
  funext c
  by_cases h : c = 100 + i
  · subst h
    rw [xSet2_in (by omega)]
    simp only [up2_row]
    rw [xSet2_out (by omega)]
    unfold xSetR
    rw [Nat.add_sub_cancel_left]
  · rw [up2_ne _ _ _ h, up2_ne _ _ _ h, up2_ne _ _ _ h, up2_ne _ _ _ h]
    unfold xSet2
    by_cases h2 : 100 ≤ c ∧ c < 100 + i
    · rw [if_pos h2, if_pos (by omega)]
    · rw [if_neg h2, if_neg (by omega)]
def xBecome (ι : gIm) (c : Nat) (what v : Int32) : gIm := if what = 0 then up2 ι c 2 v else if what = 1 then up2 ι c 3 v else up2 ι c 4 (if v = 1 then 1 else 0)
theorem nn_i {h : Int32} {n : Nat} (f : 0 ≤ h ∧ h < nI n) (hn : n < 1000000) : h.toNatClampNeg < n := (gIn_nn (m := n) f (Nat.le_refl _) hn).2
theorem sMost_ge (f : Nat → Int32) (b : Nat) : -1 ≤ sMost f b := by
  have h : ∀ n i a, -1 ≤ a → -1 ≤ fo (fun i a => imax a (f i)) n i a := by
    intro n
    induction n with
    | zero => intro i a h; exact h
    | succ n ih => intro i a h; rw [fo_s]; exact ih _ _ (by unfold imax; split <;> grind)
  exact h _ _ _ (Int32.le_refl _)
theorem fi_in {a b : Int32} (h : ¬ fi a b = 0) : gIn (-(fi a b)) 7 := by
  unfold fi at h ⊢
  split
  · exact ⟨by decide, by decide⟩
  · split
    · exact ⟨by decide, by decide⟩
    · rename_i h1 h2
      rw [if_neg h1, if_neg h2] at h
      exact absurd rfl h
