/-! the class: new cells -/
section CALL2
variable {K : gK} {B : gB} {dp mc ms : Nat} {j : gJ} {pc : Nat} {lv : List (Option gV)} {st : List gV} {cl sl : Nat} {ι : gIm} {ρ : gRm} {Λ : gLm} {Q : gQ}
theorem x_Ie {idx c n dp' mc' ms' : Nat} {j' : gJ} {av : List gV} {rest st' : List gV} {r : Option gV} {ι' : gIm} {ρ' : gRm} {Λ' : gLm} (cl' sl' : Nat) (hd : decode j.2.1 pc = .ok (.invokespecial idx, 3)) (hw : gLkI j.1.cls idx j' n) (hn : av.length = n) (hst : st = av.reverse ++ vR c :: rest)
    (hroom : dp' + 1 ≤ dp ∧ j'.2.2.1 ≤ 45 ∧ rest.length ≤ 8) (hcl : cl + mc' = cl' ∧ cl' ≤ mc) (hsl : sl + ms' = sl' ∧ sl' ≤ ms) (hC : gCe K dp' mc' ms' j' (vR c :: av) ι ρ Λ r ι' ρ' Λ') (hst' : r.toList ++ rest = st')
    (kk : gX K B dp mc ms j (pc + 3) lv st' cl' sl' ι' ρ' Λ' Q) : gX K B dp mc ms j pc lv st cl sl ι ρ Λ Q := by
  obtain ⟨rfl, hcl⟩ := hcl
  obtain ⟨rfl, hsl⟩ := hsl
  subst hst'
  refine x_callI hd hw hn hst hroom hcl hsl hC (fun r2 a b c2 h => ?_)
  obtain ⟨rfl, rfl, rfl, rfl⟩ := h
  exact kk
theorem x_Ne {idx c n dp' mc' ms' : Nat} {j' : gJ} {av : List gV} {rest st' : List gV} {r : Option gV} {ι' : gIm} {ρ' : gRm} {Λ' : gLm} (cl' sl' : Nat) (hd : decode j.2.1 pc = .ok (.invokespecial idx, 3)) (hw : gLkN j.1.cls idx j' n) (hn : av.length = n) (hst : st = av.reverse ++ vR c :: rest)
    (hroom : dp' + 1 ≤ dp ∧ j'.2.2.1 ≤ 45 ∧ rest.length ≤ 8) (hcl : cl + mc' = cl' ∧ cl' ≤ mc) (hsl : sl + ms' = sl' ∧ sl' ≤ ms) (hC : gCe K dp' mc' ms' j' (vR c :: av) ι ρ Λ r ι' ρ' Λ') (hst' : r.toList ++ rest = st')
    (kk : gX K B dp mc ms j (pc + 3) lv st' cl' sl' ι' ρ' Λ' Q) : gX K B dp mc ms j pc lv st cl sl ι ρ Λ Q := by
  obtain ⟨rfl, hcl⟩ := hcl
  obtain ⟨rfl, hsl⟩ := hsl
  subst hst'
  refine x_callN hd hw hn hst hroom hcl hsl hC (fun r2 a b c2 h => ?_)
  obtain ⟨rfl, rfl, rfl, rfl⟩ := h
  exact kk
theorem x_nmρ {ρ' : gRm} (k : ∀ z, z = ρ' → gX K B dp mc ms j pc lv st cl sl ι z Λ Q) : gX K B dp mc ms j pc lv st cl sl ι ρ' Λ Q := k ρ' rfl
theorem x_nmΛ {Λ' : gLm} (k : ∀ z, z = Λ' → gX K B dp mc ms j pc lv st cl sl ι ρ z Q) : gX K B dp mc ms j pc lv st cl sl ι ρ Λ' Q := k Λ' rfl
end CALL2
theorem rdn1 {α : Type} {z ι : Nat → Nat → α} {c0 c k : Nat} {r : Nat → α} (e : z = va_up ι c0 r) (h : c ≠ c0) : z c k = ι c k := by rw [e, va_up_ne _ _ h]
theorem rdn0 {α : Type} {z ι : Nat → Nat → α} {c0 k : Nat} {v : α} (e : z = va_up ι c0 (fun _ => v)) : z c0 k = v := by rw [e, va_up_self]
theorem gst_lt {c k d : Nat} (h : gst c k = some d) : c < 77 := by
  rcases Nat.lt_or_ge c 77 with h1 | h1
  · exact h1
  · exfalso
    unfold gst at h
    rw [show gstL.getD c [] = [] from by rw [List.getD_eq_getElem?_getD, List.getElem?_eq_none (show gstL.length ≤ c from h1)]; rfl] at h
    cases h
theorem gln_lt {c n : Nat} (h : gln c = some n) : c < 77 := by
  rcases Nat.lt_or_ge c 77 with h1 | h1
  · exact h1
  · exfalso
    unfold gln at h
    rw [List.getD_eq_getElem?_getD, List.getElem?_eq_none (show glnL.length ≤ c from h1)] at h
    cases h
theorem gFix_new {ρ ρ' : gRm} {Λ Λ' : gLm} {c n : Nat} (hF : gFix ρ Λ) (hc : 77 ≤ c) (h1 : ρ' = va_up ρ c (fun _ => none)) (h2 : Λ' = (Λ.1 ++ [c], va_up Λ.2 c n)) : gFix ρ' Λ' := by
  subst h1; subst h2
  refine ⟨fun d k e h => ?_, fun d n h => ?_⟩
  · rw [va_up_ne _ _ (by have := gst_lt h; omega)]; exact hF.1 d k e h
  · show va_up Λ.2 c _ d = n
    rw [va_up_ne _ _ (by have := gln_lt h; omega)]; exact hF.2 d n h
theorem gFix_up {ρ ρ' : gRm} {Λ : gLm} {c k : Nat} {o : Option Nat} (hF : gFix ρ Λ) (hc : gst c k = none) (h1 : ρ' = up2 ρ c k o) : gFix ρ' Λ := by
  subst h1
  refine ⟨fun d i e h => ?_, hF.2⟩
  rw [up2_get]
  by_cases hh : d = c ∧ i = k
  · rw [hh.1, hh.2, hc] at h; cases h
  · rw [if_neg hh]; exact hF.1 d i e h
def sel {α : Type} (c : Int32) (a b : α) : α := if c = 0 then a else b
def xHouseI (ι : gIm) (nh : Nat) (v n : Int32) : gIm := up2 (up2 (up2 (up2 (up2 (up2 (va_up ι (100 + nh) (fun _ => 0)) (100 + nh) 3 5) (100 + nh) 4 1) (100 + nh) 0 (nI nh)) (100 + nh) 1 v) (100 + nh) 2 n) 4 2 (nI nh + 1)
def xHouseR (ρ : gRm) (nh : Nat) : gRm := up2 (va_up ρ (100 + nh) (fun _ => none)) 5 nh (some (100 + nh))
def xHouseL (Λ : gLm) (nh : Nat) : gLm := (Λ.1 ++ [100 + nh], va_up Λ.2 (100 + nh) 0)
