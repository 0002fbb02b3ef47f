/-! the class: the bridge, II -/
theorem gst_arr {c k : Nat} (h : gstL.getD c [] = []) : gst c k = none := by unfold gst; rw [h]; rfl
def xGoneI (ι : gIm) (o : Option Nat) : gIm := match o with
  | none => ι
  | some r => up2 ι (200 + r) 8 (-9)
def xSoak (ι : gIm) (w : Int32) (n : Nat) : gIm := va_up ι 12 (fil (fun p => ι 12 p + w) n (ι 12))
def sHung (sp : Nat → Option Nat) : Int32 := fo (fun i a => a ||| (if sp i = none then 0 else (1 : Int32) <<< (nI i &&& 31))) 6 0 0
theorem hgi_lt {r : Nat} (h : r < 1000000) : ¬ nI r < 0 := nI_pos (by omega)
def xLayO (ι : gIm) (nr a b c : Nat) (y : Int32) : gIm := xLayI ι nr (cn (ι (200 + a) 1)) a b c y
theorem sCounts_le {f : Nat → Int32} (h : ∀ k, k < 52 → -1 ≤ f k ∧ f k ≤ 9) {w : Nat} (hw : w < 52) : 0 ≤ sCounts f w ∧ sCounts f w ≤ 9 := by
  have hm : ∀ n i a, i + n ≤ 52 → (-1 ≤ a ∧ a ≤ 9) → -1 ≤ fo (fun i a => imax a (f i)) n i a ∧ fo (fun i a => imax a (f i)) n i a ≤ 9 := by
    intro n
    induction n with
    | zero => intro i a _ h2; exact h2
    | succ n ih =>
      intro i a h1 h2
      rw [fo_s]
      exact ih (i + 1) _ (by omega) (by have := h i (by omega); unfold imax; split <;> grind)
  have h1 := hm 13 (w / 13 * 13) (-1) (by omega) ⟨by decide, by decide⟩
  have h2 := h w hw
  unfold sCounts sMost
  grind
theorem sWet_le {f : Nat → Int32} (h : ∀ k, k < 52 → -1 ≤ f k ∧ f k ≤ 9) {w : Nat} (hw : w < 52) : 0 ≤ sWet f w ∧ sWet f w ≤ 18 := by
  have h1 := sCounts_le h hw
  unfold sWet
  split <;> grind
theorem m_add {mm k : Nat} {x : Int32} (h : mm ≤ 18 * k) (hk : k ≤ 60) (hx : 0 ≤ x ∧ x ≤ 18) : ∃ m2, m2 ≤ 18 * (k + 1) ∧ nI mm + x = nI m2 := by
  have h1 := gIn_of (n := 19) 19 (k := x) ⟨hx.1, by grind⟩ rfl
  have h2 := h1.2
  refine ⟨mm + x.toNatClampNeg, by omega, ?_⟩
  rw [← nI_add, ← h1.nI]
/-! breaks of the class -/
def xBroken (ι : gIm) (bk : Nat → Nat) (nb : Nat) (i what : Int32) : Int32 := if 0 ≤ i ∧ i < nI nb then (if what = 0 then nI (bk i.toNatClampNeg) else if what = 1 then ι (800 + i.toNatClampNeg) 1 else ι (800 + i.toNatClampNeg) 2) else -9
def xKeepI (ι : gIm) (nb : Nat) (year week : Int32) : gIm := if nb = 40 then ι else up2 (up2 (up2 (va_up ι (800 + nb) (fun _ => 0)) (800 + nb) 1 year) (800 + nb) 2 week) 14 1 (nI nb + 1)
def xKeepR (ρ : gRm) (nb r : Nat) : gRm := if nb = 40 then ρ else up2 (up2 (va_up ρ (800 + nb) (fun _ => none)) (800 + nb) 0 (some (200 + r))) 15 nb (some (800 + nb))
def xKeepL (Λ : gLm) (nb : Nat) : gLm := if nb = 40 then Λ else (Λ.1 ++ [800 + nb], va_up Λ.2 (800 + nb) 0)
