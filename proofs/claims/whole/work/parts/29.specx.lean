/-! the class: new cells -/
section CALL2
variable {K : gK} {B : gB} {dp mc ms : Nat} {j : gJ} {pc : Nat} {lv : List (Option gV)} {st : List gV} {cl sl : Nat} {ι : gIm} {ρ : gRm} {Λ : gLm} {Q : gQ}
theorem x_Ie {idx c n dp' mc' ms' : Nat} {j' : gJ} {av : List gV} {rest st' : List gV} {r : Option gV} {ι' : gIm} {ρ' : gRm} {Λ' : gLm} (cl' sl' : Nat) (hd : decode j.2.1 pc = .ok (.invokespecial idx, 3)) (hw : gLkI j.1.cls idx j' n) (hn : av.length = n) (hst : st = av.reverse ++ vR c :: rest)
    (hroom : dp' + 1 ≤ dp ∧ j'.2.2.1 ≤ 45 ∧ rest.length ≤ 8) (hcl : cl + mc' = cl' ∧ cl' ≤ mc) (hsl : sl + ms' = sl' ∧ sl' ≤ ms) (hC : gCe K dp' mc' ms' j' (vR c :: av) ι ρ Λ r ι' ρ' Λ') (hst' : r.toList ++ rest = st')
    (kk : gX K B dp mc ms j (pc + 3) lv st' cl' sl' ι' ρ' Λ' Q) : gX K B dp mc ms j pc lv st cl sl ι ρ Λ Q := by
  obtain ⟨rfl, hcl⟩ := hcl
  obtain ⟨rfl, hsl⟩ := hsl
  subst hst'
  refine x_callI hd hw hn hst hroom hcl hsl hC (fun r2 a b c2 h => ?_)
  obtain ⟨rfl, rfl, rfl, rfl⟩ := h
  exact kk
theorem x_Ne {idx c n dp' mc' ms' : Nat} {j' : gJ} {av : List gV} {rest st' : List gV} {r : Option gV} {ι' : gIm} {ρ' : gRm} {Λ' : gLm} (cl' sl' : Nat) (hd : decode j.2.1 pc = .ok (.invokespecial idx, 3)) (hw : gLkN j.1.cls idx j' n) (hn : av.length = n) (hst : st = av.reverse ++ vR c :: rest)
    (hroom : dp' + 1 ≤ dp ∧ j'.2.2.1 ≤ 45 ∧ rest.length ≤ 8) (hcl : cl + mc' = cl' ∧ cl' ≤ mc) (hsl : sl + ms' = sl' ∧ sl' ≤ ms) (hC : gCe K dp' mc' ms' j' (vR c :: av) ι ρ Λ r ι' ρ' Λ') (hst' : r.toList ++ rest = st')
    (kk : gX K B dp mc ms j (pc + 3) lv st' cl' sl' ι' ρ' Λ' Q) : gX K B dp mc ms j pc lv st cl sl ι ρ Λ Q := by
  obtain ⟨rfl, hcl⟩ := hcl
  obtain ⟨rfl, hsl⟩ := hsl
  subst hst'
  refine x_callN hd hw hn hst hroom hcl hsl hC (fun r2 a b c2 h => ?_)
  obtain ⟨rfl, rfl, rfl, rfl⟩ := h
  exact kk
theorem x_nmρ {ρ' : gRm} (k : ∀ z, z = ρ' → gX K B dp mc ms j pc lv st cl sl ι z Λ Q) : gX K B dp mc ms j pc lv st cl sl ι ρ' Λ Q := k ρ' rfl
theorem x_nmΛ {Λ' : gLm} (k : ∀ z, z = Λ' → gX K B dp mc ms j pc lv st cl sl ι ρ z Q) : gX K B dp mc ms j pc lv st cl sl ι ρ Λ' Q := k Λ' rfl
end CALL2
theorem rdn1 {α : Type} {z ι : Nat → Nat → α} {c0 c k : Nat} {r : Nat → α} (e : z = va_up ι c0 r) (h : c ≠ c0) : z c k = ι c k := by rw [e, va_up_ne _ _ h]
theorem rdn0 {α : Type} {z ι : Nat → Nat → α} {c0 k : Nat} {v : α} (e : z = va_up ι c0 (fun _ => v)) : z c0 k = v := by rw [e, va_up_self]
theorem gst_lt {c k d : Nat} (h : gst c k = some d) : c < 77 := by
  rcases Nat.lt_or_ge c 77 with h1 | h1
  · exact h1
  · exfalso
    unfold gst at h
    rw [show gstL.getD c [] = [] from by rw [List.getD_eq_getElem?_getD, List.getElem?_eq_none (show gstL.length ≤ c from h1)]; rfl] at h
    cases h
theorem gln_lt {c n : Nat} (h : gln c = some n) : c < 77 := by
  rcases Nat.lt_or_ge c 77 with h1 | h1
  · exact h1
  · exfalso
    unfold gln at h
    rw [List.getD_eq_getElem?_getD, List.getElem?_eq_none (show glnL.length ≤ c from h1)] at h
    cases h
theorem gFix_new {ρ ρ' : gRm} {Λ Λ' : gLm} {c n : Nat} (hF : gFix ρ Λ) (hc : 77 ≤ c) (h1 : ρ' = va_up ρ c (fun _ => none)) (h2 : Λ' = (Λ.1 ++ [c], va_up Λ.2 c n)) : gFix ρ' Λ' := by
  subst h1; subst h2
  refine ⟨fun d k e h => ?_, fun d n h => ?_⟩
  · rw [va_up_ne _ _ (by have := gst_lt h; omega)]; exact hF.1 d k e h
  · show va_up Λ.2 c _ d = n
    rw [va_up_ne _ _ (by have := gln_lt h; omega)]; exact hF.2 d n h
theorem gFix_up {ρ ρ' : gRm} {Λ : gLm} {c k : Nat} {o : Option Nat} (hF : gFix ρ Λ) (hc : gst c k = none) (h1 : ρ' = up2 ρ c k o) : gFix ρ' Λ := by
  subst h1
  refine ⟨fun d i e h => ?_, hF.2⟩
  rw [up2_get]
  by_cases hh : d = c ∧ i = k
  · rw [hh.1, hh.2, hc] at h; cases h
  · rw [if_neg hh]; exact hF.1 d i e h
def sel {α : Type} (c : Int32) (a b : α) : α := if c = 0 then a else b
def xHouseI (ι : gIm) (nh : Nat) (v n : Int32) : gIm := up2 (up2 (up2 (up2 (up2 (up2 (va_up ι (100 + nh) (fun _ => 0)) (100 + nh) 3 5) (100 + nh) 4 1) (100 + nh) 0 (nI nh)) (100 + nh) 1 v) (100 + nh) 2 n) 4 2 (nI nh + 1)
def xHouseR (ρ : gRm) (nh : Nat) : gRm := up2 (va_up ρ (100 + nh) (fun _ => none)) 5 nh (some (100 + nh))
def xHouseL (Λ : gLm) (nh : Nat) : gLm := (Λ.1 ++ [100 + nh], va_up Λ.2 (100 + nh) 0)
theorem hr_up {ι : gIm} {c k : Nat} {r : Nat → Int32} (h : c < 100) : hr (va_up ι c r) k = hr ι k := by funext i; unfold hr; rw [va_up_ne _ _ (by omega)]
/-! ropes of the class -/
def cn (k : Int32) : Nat := if k = 0 then 3 else if k = 1 then 9 else 27
def xFree (laid hung yl year : Int32) : Int32 := if laid = 0 ∧ hung = 0 ∧ yl = year then 1 else 0
/-- how many of the first n are h -/
def xCords (ow : Nat → Int32) (n : Nat) (h : Int32) : Int32 := fo (fun i a => a + (if ow i = h then 1 else 0)) n 0 0
def xLeast (ca : Nat → Int32) (n : Nat) : Int32 := fo (fun i a => imin a (ca i)) n 0 9
def xWeak (ow ca : Nat → Int32) (n : Nat) (h : Int32) : Int32 := fo (fun i a => a + (if ow i = h ∧ ca i = xLeast ca n then 1 else 0)) n 0 0
def jn (L : Nat) (f g h : Nat → Int32) : Nat → Int32 := fun k => if k < L then f k else if k < 2 * L then g (k - L) else if k < 3 * L then h (k - 2 * L) else 0
theorem jn_cpy (L : Nat) (f g h : Nat → Int32) : va_cpy h (va_cpy g (va_cpy f (fun _ => 0) 0 0 L) 0 L L) 0 (2 * L) L = jn L f g h := by
  funext k
  unfold va_cpy jn
  grind
/-- a rope's cell, new -/
def xRopeI (ι : gIm) (nr : Nat) (kind s y : Int32) : gIm := up2 (up2 (up2 (up2 (up2 (up2 (va_up ι (200 + nr) (fun _ => 0)) (200 + nr) 8 (-9)) (200 + nr) 0 (nI nr)) (200 + nr) 1 kind) (200 + nr) 2 s) (200 + nr) 3 y) 7 1 (nI nr + 1)
def row3 (a b c : Int32) : Nat → Int32 := va_up (va_up (va_up (fun _ => 0) 0 a) 1 b) 2 c
def xSmallI (ι : gIm) (nr a b c : Nat) (y : Int32) : gIm :=
  xRopeI (inc (inc (up2 (va_up (va_up ι (400 + nr) (row3 (ι (100 + a) 0) (ι (100 + b) 0) (ι (100 + c) 0))) (600 + nr) (row3 (ι (100 + a) 3) (ι (100 + b) 3) (ι (100 + c) 3))) (100 + a) 7 (ι (100 + a) 7 + 1)) (100 + b) 7) (100 + c) 7) nr 0 (imin (ι (100 + a) 3) (imin (ι (100 + b) 3) (ι (100 + c) 3))) y
def xLayI (ι : gIm) (nr L a b c : Nat) (y : Int32) : gIm :=
  xRopeI (va_up (va_up (up2 (up2 (up2 ι (200 + a) 6 1) (200 + b) 6 1) (200 + c) 6 1) (400 + nr) (jn L (ι (400 + a)) (ι (400 + b)) (ι (400 + c)))) (600 + nr) (jn L (ι (600 + a)) (ι (600 + b)) (ι (600 + c)))) nr (ι (200 + a) 1 + 1) (imax 1 (ι (200 + a) 2 + ι (200 + b) 2 + ι (200 + c) 2 - 2)) y
def xRopeR (ρ : gRm) (nr : Nat) : gRm := up2 (up2 (up2 (va_up (va_up (va_up ρ (400 + nr) (fun _ => none)) (600 + nr) (fun _ => none)) (200 + nr) (fun _ => none)) (200 + nr) 4 (some (400 + nr))) (200 + nr) 5 (some (600 + nr))) 8 nr (some (200 + nr))
def xRopeL (Λ : gLm) (nr n : Nat) : gLm := (Λ.1 ++ [400 + nr] ++ [600 + nr] ++ [200 + nr], va_up (va_up (va_up Λ.2 (400 + nr) n) (600 + nr) n) (200 + nr) 0)
theorem cn_le (k : Int32) : cn k ≤ 27 := by unfold cn; split; decide; split <;> decide
theorem up2_va {α : Type} (ι : Nat → Nat → α) (c k : Nat) (r : Nat → α) (v : α) : up2 (va_up ι c r) c k v = va_up ι c (va_up r k v) := by
  unfold up2
  rw [va_up_self]
  funext d
  by_cases h : d = c
  · subst h; rw [va_up_self, va_up_self]
  · rw [va_up_ne _ _ h, va_up_ne _ _ h, va_up_ne _ _ h]
theorem fr_new {Λ Λ' : gLm} {c d : Nat} {f : Nat → Nat} (e : Λ' = (Λ.1 ++ [d], f)) (h : c ∉ Λ.1) (hne : c ≠ d) : c ∉ Λ'.1 := by
  rw [e]
  intro h2
  rcases List.mem_append.mp h2 with h3 | h3
  · exact h h3
  · exact hne (List.mem_singleton.mp h3)
theorem ln_new {Λ Λ' : gLm} {d n : Nat} (e : Λ' = (Λ.1 ++ [d], va_up Λ.2 d n)) : Λ'.2 d = n := by rw [e]; exact va_up_self _ _ _
theorem ln_old {Λ Λ' : gLm} {c d n : Nat} (e : Λ' = (Λ.1 ++ [d], va_up Λ.2 d n)) (h : c ≠ d) : Λ'.2 c = Λ.2 c := by rw [e]; exact va_up_ne _ _ h
theorem gst_none {c k : Nat} (h : 77 ≤ c) : gst c k = none := by
  cases e : gst c k with
  | none => rfl
  | some d => have := gst_lt e; omega
theorem va_up_up {α : Type} (f : Nat → α) (c : Nat) (r s : α) : va_up (va_up f c r) c s = va_up f c s := by
  funext d
  by_cases h : d = c
  · subst h; rw [va_up_self, va_up_self]
  · rw [va_up_ne _ _ h, va_up_ne _ _ h, va_up_ne _ _ h]
theorem rr1 {α : Type} {z ι : Nat → Nat → α} {c0 k0 c : Nat} {v : α} (e : z = up2 ι c0 k0 v) (h : c ≠ c0) : z c = ι c := by rw [e, up2_ne _ _ _ h]
theorem rrn1 {α : Type} {z ι : Nat → α} {c0 c : Nat} {r : α} (e : z = va_up ι c0 r) (h : c ≠ c0) : z c = ι c := by rw [e, va_up_ne _ _ h]
theorem nr_lt {n : Nat} (h : ¬ 200 ≤ nI n) (hn : n ≤ 200) : n < 200 := by
  rcases Nat.lt_or_ge n 200 with h1 | h1
  · exact h1
  · exact absurd (by rw [show n = 200 by omega]; decide) h
