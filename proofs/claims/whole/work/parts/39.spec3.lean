/-! the class: the bridge, II -/
theorem gst_arr {c k : Nat} (h : gstL.getD c [] = []) : gst c k = none := by unfold gst; rw [h]; rfl
def xGoneI (ι : gIm) (o : Option Nat) : gIm := match o with
  | none => ι
  | some r => up2 ι (200 + r) 8 (-9)
def xSoak (ι : gIm) (w : Int32) (n : Nat) : gIm := va_up ι 12 (fil (fun p => ι 12 p + w) n (ι 12))
def sHung (sp : Nat → Option Nat) : Int32 := fo (fun i a => a ||| (if sp i = none then 0 else (1 : Int32) <<< (nI i &&& 31))) 6 0 0
theorem hgi_lt {r : Nat} (h : r < 1000000) : ¬ nI r < 0 := nI_pos (by omega)
def xLayO (ι : gIm) (nr a b c : Nat) (y : Int32) : gIm := xLayI ι nr (cn (ι (200 + a) 1)) a b c y
