/-! one row an instruction -/
theorem gW_get {dA : Nat → ClassId} {ad : Nat → Nat} {ι : gIm} {ρ : gRm} {Λ : gLm} {c : Nat} (h : c ∈ Λ.1) : ∃ q0 : Nat, (gW dA ad ι ρ Λ)[q0]? = some (ad c, gE dA ad ι ρ Λ.2 c) :=
  List.getElem?_of_mem (List.mem_map.mpr ⟨c, h, rfl⟩)
theorem gW_set {dA : Nat → ClassId} {ad : Nat → Nat} {ι ι' : gIm} {ρ ρ' : gRm} {Λ : gLm} {A : Nat → Prop} {c q0 : Nat} {e : va_E} (hD : va_D A (gW dA ad ι ρ Λ)) (hc : c ∈ Λ.1) (hq : (gW dA ad ι ρ Λ)[q0]? = some (ad c, gE dA ad ι ρ Λ.2 c))
    (h1 : gE dA ad ι' ρ' Λ.2 c = e) (h2 : ∀ d, d ≠ c → gE dA ad ι' ρ' Λ.2 d = gE dA ad ι ρ Λ.2 d) : (gW dA ad ι ρ Λ).set q0 (ad c, e) = gW dA ad ι' ρ' Λ := by
  obtain ⟨i, hi⟩ := List.getElem?_of_mem hc
  have hi2 : (gW dA ad ι ρ Λ)[i]? = some (ad c, gE dA ad ι ρ Λ.2 c) := by simp [gW, hi]
  have e1 : q0 = i := hD.1 _ _ _ _ hq hi2 rfl
  subst e1
  apply List.ext_getElem?
  intro k
  by_cases hk : k = q0
  · subst hk
    have hl : k < (gW dA ad ι ρ Λ).length := (List.getElem?_eq_some_iff.mp hq).1
    rw [List.getElem?_set_self hl]
    simp [gW, hi, h1]
  · rw [List.getElem?_set_ne (fun z => hk z.symm)]
    cases hd : Λ.1[k]? with
    | none => simp [gW, hd]
    | some d =>
      have hdc : d ≠ c := by
        rintro rfl
        have hk2 : (gW dA ad ι ρ Λ)[k]? = some (ad d, gE dA ad ι ρ Λ.2 d) := by simp [gW, hd]
        exact hk (hD.1 _ _ _ _ hk2 hq rfl)
      simp [gW, hd, h2 d hdc]
theorem up2_row {α : Type} (f : Nat → Nat → α) (c k : Nat) (v : α) : up2 f c k v c = va_up (f c) k v := by simp [up2, va_up]
theorem up2_ne {α : Type} (f : Nat → Nat → α) {c d : Nat} (k : Nat) (v : α) (h : d ≠ c) : up2 f c k v d = f d := by simp [up2, va_up, h]
theorem gE_obj {dA : Nat → ClassId} {ad : Nat → Nat} {ι : gIm} {ρ : gRm} {ln : Nat → Nat} {c ci : Nat} (h : shp c = ci) (hci : ci < 13) : gE dA ad ι ρ ln c = .inr (ci, gFs ad (ι c) (ρ c) ci) := by
  subst h; unfold gE; rw [if_pos hci]
theorem gE_arr {dA : Nat → ClassId} {ad : Nat → Nat} {ι : gIm} {ρ : gRm} {ln : Nat → Nat} {c t : Nat} (h : shp c = 13 + t) (ht : t < 2) : gE dA ad ι ρ ln c = .inl (dA t, ln c, .inl (ι c)) := by
  unfold gE; rw [if_neg (by omega), if_pos (by omega), h, Nat.add_sub_cancel_left]
theorem gE_ref {dA : Nat → ClassId} {ad : Nat → Nat} {ι : gIm} {ρ : gRm} {ln : Nat → Nat} {c t : Nat} (h : shp c = 13 + t) (ht : 2 ≤ t) : gE dA ad ι ρ ln c = .inl (dA t, ln c, .inr (.inr (.inr (.inr (fun j => (ρ c j).map ad))))) := by
  unfold gE; rw [if_neg (by omega), if_neg (by omega), h, Nat.add_sub_cancel_left]
theorem gE_same {dA : Nat → ClassId} {ad : Nat → Nat} {ι ι' : gIm} {ρ ρ' : gRm} {ln : Nat → Nat} {d : Nat} (h1 : ι' d = ι d) (h2 : ρ' d = ρ d) : gE dA ad ι' ρ' ln d = gE dA ad ι ρ ln d := by unfold gE; rw [h1, h2]
/-- a field: own class, place in its pool, class, slot -/
def gFld (own : String) (idx ci k : Nat) : Prop := ∃ q : vw_C, gcl[ci]? = some q ∧ k < q.2.2 ∧ Cond.fieldLink own idx q.1 (q.2.1 k).2.1 (q.2.1 k).2.2.1 ∈ gT ∧ (q.2.1 k).2.2.2 = false
def gFldF (own : String) (idx ci k : Nat) : Prop := ∃ q : vw_C, gcl[ci]? = some q ∧ k < q.2.2 ∧ Cond.fieldLink own idx q.1 (q.2.1 k).2.1 (q.2.1 k).2.2.1 ∈ gT ∧ (q.2.1 k).2.2.2 = true
theorem gNf_of {ci : Nat} {q : vw_C} (h : gcl[ci]? = some q) : gNf ci = q.2.2 := by unfold gNf; rw [List.getD_eq_getElem?_getD, h]; rfl
theorem gcl_lt {ci : Nat} {q : vw_C} (h : gcl[ci]? = some q) : ci < 13 := (List.getElem?_eq_some_iff.mp h).1
theorem gFs_at {ad : Nat → Nat} {r : Nat → Int32} {q : Nat → Option Nat} {ci k : Nat} (h : k < gNf ci) : (gFs ad r q ci)[k]? = some (gFv ad r q ci k) := by
  simp [gFs, h]
theorem gFs_set {ad : Nat → Nat} {r r' : Nat → Int32} {q q' : Nat → Option Nat} {ci k : Nat} (h1 : ∀ j, j ≠ k → gFv ad r' q' ci j = gFv ad r q ci j) : (gFs ad r q ci).set k (gFv ad r' q' ci k) = gFs ad r' q' ci := by
  apply List.ext_getElem?
  intro i
  by_cases hi : i = k
  · subst hi
    by_cases hl : i < gNf ci
    · rw [List.getElem?_set_self (by simpa [gFs] using hl), gFs_at hl]
    · rw [List.getElem?_eq_none (by simp [gFs]; omega), List.getElem?_eq_none (by simp [gFs]; omega)]
  · rw [List.getElem?_set_ne (fun z => hi z.symm)]
    by_cases hl : i < gNf ci
    · rw [gFs_at hl, gFs_at hl, h1 i hi]
    · rw [List.getElem?_eq_none (by simp [gFs]; omega), List.getElem?_eq_none (by simp [gFs]; omega)]
theorem gFs_len {ad : Nat → Nat} {r : Nat → Int32} {q : Nat → Option Nat} {ci : Nat} : (gFs ad r q ci).length = gNf ci := by simp [gFs]
section RULES
variable {K : gK} {B : gB} {dp mc ms : Nat} {j : gJ} {pc : Nat} {lv : List (Option gV)} {st : List gV} {cl sl : Nat} {ι : gIm} {ρ : gRm} {Λ : gLm} {Q : gQ}
theorem x_iconst {n : Int} (v : Int32) (hd : decode j.2.1 pc = .ok (.iconst n, 1)) (hv : Int32.ofInt n = v) (k : gX K B dp mc ms j (pc + 1) lv (vI v :: st) cl sl ι ρ Λ Q) : gX K B dp mc ms j pc lv st cl sl ι ρ Λ Q := by
  intro p e R s m args below meth c H locs ls ad Z C hR hS hl hv1 hv2 hZ
  refine lv_iconst C.1 C.2.1 hd hv ?_
  exact k p e R s m args below meth c H locs ls ad Z C hR hS hl hv1 (List.forall_mem_cons.mpr ⟨gLive.int, hv2⟩) hZ
theorem x_bipush {n : Int} (v : Int32) (hd : decode j.2.1 pc = .ok (.bipush n, 2)) (hv : (Int8.ofInt n).toInt32 = v) (k : gX K B dp mc ms j (pc + 2) lv (vI v :: st) cl sl ι ρ Λ Q) : gX K B dp mc ms j pc lv st cl sl ι ρ Λ Q := by
  intro p e R s m args below meth c H locs ls ad Z C hR hS hl hv1 hv2 hZ
  refine lv_bipush C.1 C.2.1 hd hv ?_
  exact k p e R s m args below meth c H locs ls ad Z C hR hS hl hv1 (List.forall_mem_cons.mpr ⟨gLive.int, hv2⟩) hZ
theorem x_sipush {n : Int} (v : Int32) (hd : decode j.2.1 pc = .ok (.sipush n, 3)) (hv : (Int16.ofInt n).toInt32 = v) (k : gX K B dp mc ms j (pc + 3) lv (vI v :: st) cl sl ι ρ Λ Q) : gX K B dp mc ms j pc lv st cl sl ι ρ Λ Q := by
  intro p e R s m args below meth c H locs ls ad Z C hR hS hl hv1 hv2 hZ
  refine lv_sipush C.1 C.2.1 hd hv ?_
  exact k p e R s m args below meth c H locs ls ad Z C hR hS hl hv1 (List.forall_mem_cons.mpr ⟨gLive.int, hv2⟩) hZ
theorem x_ldc {idx : Nat} {v : Int32} (hd : decode j.2.1 pc = .ok (.ldc idx, 2)) (hw : Cond.constant j.1.cls idx v ∈ gT) (k : gX K B dp mc ms j (pc + 2) lv (vI v :: st) cl sl ι ρ Λ Q) : gX K B dp mc ms j pc lv st cl sl ι ρ Λ Q := by
  intro p e R s m args below meth c H locs ls ad Z C hR hS hl hv1 hv2 hZ
  obtain ⟨hx, hb, hml, hown, hts, -⟩ := id C
  refine lv_ldc hx hb hown (hts _ hw) hd ?_
  exact k p e R s m args below meth c H locs ls ad Z C hR hS hl hv1 (List.forall_mem_cons.mpr ⟨gLive.int, hv2⟩) hZ
theorem x_ldcw {idx : Nat} {v : Int32} (hd : decode j.2.1 pc = .ok (.ldc_w idx, 3)) (hw : Cond.constant j.1.cls idx v ∈ gT) (k : gX K B dp mc ms j (pc + 3) lv (vI v :: st) cl sl ι ρ Λ Q) : gX K B dp mc ms j pc lv st cl sl ι ρ Λ Q := by
  intro p e R s m args below meth c H locs ls ad Z C hR hS hl hv1 hv2 hZ
  obtain ⟨hx, hb, hml, hown, hts, -⟩ := id C
  refine lv_ldcw hx hb hown (hts _ hw) hd ?_
  exact k p e R s m args below meth c H locs ls ad Z C hR hS hl hv1 (List.forall_mem_cons.mpr ⟨gLive.int, hv2⟩) hZ
theorem x_iload_n {n : Fin 4} {x : Int32} (i : Nat) (hd : decode j.2.1 pc = .ok (.iload_n n, 1)) (hi : (n : Nat) = i) (hx : lv[i]? = some (some (vI x))) (k : gX K B dp mc ms j (pc + 1) lv (vI x :: st) cl sl ι ρ Λ Q) : gX K B dp mc ms j pc lv st cl sl ι ρ Λ Q := by
  intro p e R s m args below meth c H locs ls ad Z C hR hS hl hv1 hv2 hZ
  refine lv_iload_n C.1 C.2.1 hd hi (hl.2.2 i _ hx) ?_
  exact k p e R s m args below meth c H locs ls ad Z C hR hS hl hv1 (List.forall_mem_cons.mpr ⟨gLive.int, hv2⟩) hZ
theorem x_iload {i : Nat} {x : Int32} (hd : decode j.2.1 pc = .ok (.iload i, 2)) (hx : lv[i]? = some (some (vI x))) (k : gX K B dp mc ms j (pc + 2) lv (vI x :: st) cl sl ι ρ Λ Q) : gX K B dp mc ms j pc lv st cl sl ι ρ Λ Q := by
  intro p e R s m args below meth c H locs ls ad Z C hR hS hl hv1 hv2 hZ
  refine lv_iload C.1 C.2.1 hd (hl.2.2 i _ hx) ?_
  exact k p e R s m args below meth c H locs ls ad Z C hR hS hl hv1 (List.forall_mem_cons.mpr ⟨gLive.int, hv2⟩) hZ
theorem x_aload_n {n : Fin 4} {r : Option Nat ⊕ Nat} (i : Nat) (hd : decode j.2.1 pc = .ok (.aload_n n, 1)) (hi : (n : Nat) = i) (hx : lv[i]? = some (some (Sum.inr r))) (k : gX K B dp mc ms j (pc + 1) lv (Sum.inr r :: st) cl sl ι ρ Λ Q) : gX K B dp mc ms j pc lv st cl sl ι ρ Λ Q := by
  intro p e R s m args below meth c H locs ls ad Z C hR hS hl hv1 hv2 hZ
  have k2 := k p e R s m args below meth c H locs ls ad Z C hR hS hl hv1 (List.forall_mem_cons.mpr ⟨hv1 _ (List.mem_of_getElem? hx), hv2⟩) hZ
  have h2 := hl.2.2 i _ hx
  rcases r with (_ | a) | b
  · exact lv_aload_nN C.1 C.2.1 hd hi h2 k2
  · exact lv_aload_n C.1 C.2.1 hd hi h2 k2
  · exact lv_aload_n C.1 C.2.1 hd hi h2 k2
theorem x_aload {i : Nat} {r : Option Nat ⊕ Nat} (hd : decode j.2.1 pc = .ok (.aload i, 2)) (hx : lv[i]? = some (some (Sum.inr r))) (k : gX K B dp mc ms j (pc + 2) lv (Sum.inr r :: st) cl sl ι ρ Λ Q) : gX K B dp mc ms j pc lv st cl sl ι ρ Λ Q := by
  intro p e R s m args below meth c H locs ls ad Z C hR hS hl hv1 hv2 hZ
  have k2 := k p e R s m args below meth c H locs ls ad Z C hR hS hl hv1 (List.forall_mem_cons.mpr ⟨hv1 _ (List.mem_of_getElem? hx), hv2⟩) hZ
  have h2 := hl.2.2 i _ hx
  rcases r with (_ | a) | b
  · exact lv_aloadN C.1 C.2.1 hd h2 k2
  · exact lv_aload C.1 C.2.1 hd h2 k2
  · exact lv_aload C.1 C.2.1 hd h2 k2
theorem x_istore_n {n : Fin 4} {x : Int32} (i : Nat) {lv' : List (Option gV)} (hd : decode j.2.1 pc = .ok (.istore_n n, 1)) (hi : (n : Nat) = i) (hn : i < lv.length ∧ i < j.2.2.1) (hl' : lv.set i (some (vI x)) = lv') (k : gX K B dp mc ms j (pc + 1) lv' st cl sl ι ρ Λ Q) : gX K B dp mc ms j pc lv (vI x :: st) cl sl ι ρ Λ Q := by
  intro p e R s m args below meth c H locs ls ad Z C hR hS hl hv1 hv2 hZ
  subst hl'
  obtain ⟨h1, h2⟩ := List.forall_mem_cons.mp hv2
  refine lv_istore_n C.1 C.2.1 hd hi hl.lv hn.2 rfl fun ls' hl2 => ?_
  exact k p e R s m args below meth c H locs ls' ad Z C hR hS (gHas.set hn.1 hl2) (gLvs.set h1 hv1) h2 hZ
theorem x_istore {x : Int32} {i : Nat} {lv' : List (Option gV)} (hd : decode j.2.1 pc = .ok (.istore i, 2)) (hn : i < lv.length ∧ i < j.2.2.1) (hl' : lv.set i (some (vI x)) = lv') (k : gX K B dp mc ms j (pc + 2) lv' st cl sl ι ρ Λ Q) : gX K B dp mc ms j pc lv (vI x :: st) cl sl ι ρ Λ Q := by
  intro p e R s m args below meth c H locs ls ad Z C hR hS hl hv1 hv2 hZ
  subst hl'
  obtain ⟨h1, h2⟩ := List.forall_mem_cons.mp hv2
  refine lv_istore C.1 C.2.1 hd hl.lv hn.2 rfl fun ls' hl2 => ?_
  exact k p e R s m args below meth c H locs ls' ad Z C hR hS (gHas.set hn.1 hl2) (gLvs.set h1 hv1) h2 hZ
theorem x_astore_n {n : Fin 4} {r : Option Nat ⊕ Nat} (i : Nat) {lv' : List (Option gV)} (hd : decode j.2.1 pc = .ok (.astore_n n, 1)) (hi : (n : Nat) = i) (hn : i < lv.length ∧ i < j.2.2.1) (hl' : lv.set i (some (Sum.inr r)) = lv') (k : gX K B dp mc ms j (pc + 1) lv' st cl sl ι ρ Λ Q) : gX K B dp mc ms j pc lv (Sum.inr r :: st) cl sl ι ρ Λ Q := by
  intro p e R s m args below meth c H locs ls ad Z C hR hS hl hv1 hv2 hZ
  subst hl'
  obtain ⟨h1, h2⟩ := List.forall_mem_cons.mp hv2
  rcases r with (_ | a) | b
  · refine lv_astore_nN C.1 C.2.1 hd hi hl.lv hn.2 rfl fun ls' hl2 => ?_
    exact k p e R s m args below meth c H locs ls' ad Z C hR hS (gHas.set (v := vN) hn.1 hl2) (gLvs.set h1 hv1) h2 hZ
  · refine lv_astore_n C.1 C.2.1 hd hi hl.lv hn.2 rfl fun ls' hl2 => ?_
    exact k p e R s m args below meth c H locs ls' ad Z C hR hS (gHas.set (v := vR a) hn.1 hl2) (gLvs.set h1 hv1) h2 hZ
  · refine lv_astore_n C.1 C.2.1 hd hi hl.lv hn.2 rfl fun ls' hl2 => ?_
    exact k p e R s m args below meth c H locs ls' ad Z C hR hS (gHas.set (v := vB b) hn.1 hl2) (gLvs.set h1 hv1) h2 hZ
theorem x_astore {r : Option Nat ⊕ Nat} {i : Nat} {lv' : List (Option gV)} (hd : decode j.2.1 pc = .ok (.astore i, 2)) (hn : i < lv.length ∧ i < j.2.2.1) (hl' : lv.set i (some (Sum.inr r)) = lv') (k : gX K B dp mc ms j (pc + 2) lv' st cl sl ι ρ Λ Q) : gX K B dp mc ms j pc lv (Sum.inr r :: st) cl sl ι ρ Λ Q := by
  intro p e R s m args below meth c H locs ls ad Z C hR hS hl hv1 hv2 hZ
  subst hl'
  obtain ⟨h1, h2⟩ := List.forall_mem_cons.mp hv2
  rcases r with (_ | a) | b
  · refine lv_astoreN C.1 C.2.1 hd hl.lv hn.2 rfl fun ls' hl2 => ?_
    exact k p e R s m args below meth c H locs ls' ad Z C hR hS (gHas.set (v := vN) hn.1 hl2) (gLvs.set h1 hv1) h2 hZ
  · refine lv_astore C.1 C.2.1 hd hl.lv hn.2 rfl fun ls' hl2 => ?_
    exact k p e R s m args below meth c H locs ls' ad Z C hR hS (gHas.set (v := vR a) hn.1 hl2) (gLvs.set h1 hv1) h2 hZ
  · refine lv_astore C.1 C.2.1 hd hl.lv hn.2 rfl fun ls' hl2 => ?_
    exact k p e R s m args below meth c H locs ls' ad Z C hR hS (gHas.set (v := vB b) hn.1 hl2) (gLvs.set h1 hv1) h2 hZ
theorem x_iinc {x : Int32} {n : Int} {i : Nat} {lv' : List (Option gV)} (v : Int32) (hd : decode j.2.1 pc = .ok (.iinc i n, 3)) (hx : lv[i]? = some (some (vI x))) (hv : x + Int32.ofInt n = v) (hn : i < j.2.2.1) (hl' : lv.set i (some (vI v)) = lv') (k : gX K B dp mc ms j (pc + 3) lv' st cl sl ι ρ Λ Q) : gX K B dp mc ms j pc lv st cl sl ι ρ Λ Q := by
  intro p e R s m args below meth c H locs ls ad Z C hR hS hl hv1 hv2 hZ
  subst hl'
  obtain ⟨q, hq⟩ := List.getElem?_of_mem ((gAs_mem ad lv 0 i (gc ad (vI x))).mpr ⟨i, _, by omega, hx, rfl⟩)
  refine lv_iinc (v := v) C.1 C.2.1 hd hl.lv hq hv hn rfl fun ls' hl2 => ?_
  exact k p e R s m args below meth c H locs ls' ad Z C hR hS (gHas.set (v := vI v) (List.getElem?_eq_some_iff.mp hx).1 hl2) (gLvs.set gLive.int hv1) hv2 hZ
theorem x_iadd {x y : Int32} (hd : decode j.2.1 pc = .ok (.iadd, 1)) (k : gX K B dp mc ms j (pc + 1) lv (vI (x + y) :: st) cl sl ι ρ Λ Q) : gX K B dp mc ms j pc lv (vI y :: vI x :: st) cl sl ι ρ Λ Q := by
  intro p e R s m args below meth c H locs ls ad Z C hR hS hl hv1 hv2 hZ
  refine lv_iadd C.1 C.2.1 hd ?_
  exact k p e R s m args below meth c H locs ls ad Z C hR hS hl hv1 (List.forall_mem_cons.mpr ⟨gLive.int, (List.forall_mem_cons.mp (List.forall_mem_cons.mp hv2).2).2⟩) hZ
theorem x_isub {x y : Int32} (hd : decode j.2.1 pc = .ok (.isub, 1)) (k : gX K B dp mc ms j (pc + 1) lv (vI (x - y) :: st) cl sl ι ρ Λ Q) : gX K B dp mc ms j pc lv (vI y :: vI x :: st) cl sl ι ρ Λ Q := by
  intro p e R s m args below meth c H locs ls ad Z C hR hS hl hv1 hv2 hZ
  refine lv_isub C.1 C.2.1 hd ?_
  exact k p e R s m args below meth c H locs ls ad Z C hR hS hl hv1 (List.forall_mem_cons.mpr ⟨gLive.int, (List.forall_mem_cons.mp (List.forall_mem_cons.mp hv2).2).2⟩) hZ
theorem x_imul {x y : Int32} (hd : decode j.2.1 pc = .ok (.imul, 1)) (k : gX K B dp mc ms j (pc + 1) lv (vI (x * y) :: st) cl sl ι ρ Λ Q) : gX K B dp mc ms j pc lv (vI y :: vI x :: st) cl sl ι ρ Λ Q := by
  intro p e R s m args below meth c H locs ls ad Z C hR hS hl hv1 hv2 hZ
  refine lv_imul C.1 C.2.1 hd ?_
  exact k p e R s m args below meth c H locs ls ad Z C hR hS hl hv1 (List.forall_mem_cons.mpr ⟨gLive.int, (List.forall_mem_cons.mp (List.forall_mem_cons.mp hv2).2).2⟩) hZ
theorem x_iand {x y : Int32} (hd : decode j.2.1 pc = .ok (.iand, 1)) (k : gX K B dp mc ms j (pc + 1) lv (vI (x &&& y) :: st) cl sl ι ρ Λ Q) : gX K B dp mc ms j pc lv (vI y :: vI x :: st) cl sl ι ρ Λ Q := by
  intro p e R s m args below meth c H locs ls ad Z C hR hS hl hv1 hv2 hZ
  refine lv_iand C.1 C.2.1 hd ?_
  exact k p e R s m args below meth c H locs ls ad Z C hR hS hl hv1 (List.forall_mem_cons.mpr ⟨gLive.int, (List.forall_mem_cons.mp (List.forall_mem_cons.mp hv2).2).2⟩) hZ
theorem x_ior {x y : Int32} (hd : decode j.2.1 pc = .ok (.ior, 1)) (k : gX K B dp mc ms j (pc + 1) lv (vI (x ||| y) :: st) cl sl ι ρ Λ Q) : gX K B dp mc ms j pc lv (vI y :: vI x :: st) cl sl ι ρ Λ Q := by
  intro p e R s m args below meth c H locs ls ad Z C hR hS hl hv1 hv2 hZ
  refine lv_ior C.1 C.2.1 hd ?_
  exact k p e R s m args below meth c H locs ls ad Z C hR hS hl hv1 (List.forall_mem_cons.mpr ⟨gLive.int, (List.forall_mem_cons.mp (List.forall_mem_cons.mp hv2).2).2⟩) hZ
theorem x_ixor {x y : Int32} (hd : decode j.2.1 pc = .ok (.ixor, 1)) (k : gX K B dp mc ms j (pc + 1) lv (vI (x ^^^ y) :: st) cl sl ι ρ Λ Q) : gX K B dp mc ms j pc lv (vI y :: vI x :: st) cl sl ι ρ Λ Q := by
  intro p e R s m args below meth c H locs ls ad Z C hR hS hl hv1 hv2 hZ
  refine lv_ixor C.1 C.2.1 hd ?_
  exact k p e R s m args below meth c H locs ls ad Z C hR hS hl hv1 (List.forall_mem_cons.mpr ⟨gLive.int, (List.forall_mem_cons.mp (List.forall_mem_cons.mp hv2).2).2⟩) hZ
theorem x_idiv {x y : Int32} (hd : decode j.2.1 pc = .ok (.idiv, 1)) (hne : ¬ y = 0) (k : gX K B dp mc ms j (pc + 1) lv (vI (x / y) :: st) cl sl ι ρ Λ Q) : gX K B dp mc ms j pc lv (vI y :: vI x :: st) cl sl ι ρ Λ Q := by
  intro p e R s m args below meth c H locs ls ad Z C hR hS hl hv1 hv2 hZ
  refine lv_idiv C.1 C.2.1 hd hne ?_
  exact k p e R s m args below meth c H locs ls ad Z C hR hS hl hv1 (List.forall_mem_cons.mpr ⟨gLive.int, (List.forall_mem_cons.mp (List.forall_mem_cons.mp hv2).2).2⟩) hZ
theorem x_irem {x y : Int32} (hd : decode j.2.1 pc = .ok (.irem, 1)) (hne : ¬ y = 0) (k : gX K B dp mc ms j (pc + 1) lv (vI (x - x / y * y) :: st) cl sl ι ρ Λ Q) : gX K B dp mc ms j pc lv (vI y :: vI x :: st) cl sl ι ρ Λ Q := by
  intro p e R s m args below meth c H locs ls ad Z C hR hS hl hv1 hv2 hZ
  refine lv_irem C.1 C.2.1 hd hne ?_
  exact k p e R s m args below meth c H locs ls ad Z C hR hS hl hv1 (List.forall_mem_cons.mpr ⟨gLive.int, (List.forall_mem_cons.mp (List.forall_mem_cons.mp hv2).2).2⟩) hZ
theorem x_ishl {x y : Int32} (hd : decode j.2.1 pc = .ok (.ishl, 1)) (k : gX K B dp mc ms j (pc + 1) lv (vI (x <<< (y &&& 31)) :: st) cl sl ι ρ Λ Q) : gX K B dp mc ms j pc lv (vI y :: vI x :: st) cl sl ι ρ Λ Q := by
  intro p e R s m args below meth c H locs ls ad Z C hR hS hl hv1 hv2 hZ
  refine lv_ishl C.1 C.2.1 hd ?_
  exact k p e R s m args below meth c H locs ls ad Z C hR hS hl hv1 (List.forall_mem_cons.mpr ⟨gLive.int, (List.forall_mem_cons.mp (List.forall_mem_cons.mp hv2).2).2⟩) hZ
theorem x_ishr {x y : Int32} (hd : decode j.2.1 pc = .ok (.ishr, 1)) (k : gX K B dp mc ms j (pc + 1) lv (vI (x >>> (y &&& 31)) :: st) cl sl ι ρ Λ Q) : gX K B dp mc ms j pc lv (vI y :: vI x :: st) cl sl ι ρ Λ Q := by
  intro p e R s m args below meth c H locs ls ad Z C hR hS hl hv1 hv2 hZ
  refine lv_ishr C.1 C.2.1 hd ?_
  exact k p e R s m args below meth c H locs ls ad Z C hR hS hl hv1 (List.forall_mem_cons.mpr ⟨gLive.int, (List.forall_mem_cons.mp (List.forall_mem_cons.mp hv2).2).2⟩) hZ
theorem x_iushr {x y : Int32} (v : Int32) (hd : decode j.2.1 pc = .ok (.iushr, 1)) (hv : (x.toUInt32 >>> (y.toUInt32 &&& Int32.toUInt32 31)).toInt32 = v) (k : gX K B dp mc ms j (pc + 1) lv (vI v :: st) cl sl ι ρ Λ Q) : gX K B dp mc ms j pc lv (vI y :: vI x :: st) cl sl ι ρ Λ Q := by
  intro p e R s m args below meth c H locs ls ad Z C hR hS hl hv1 hv2 hZ
  refine lv_iushr C.1 C.2.1 hd hv ?_
  exact k p e R s m args below meth c H locs ls ad Z C hR hS hl hv1 (List.forall_mem_cons.mpr ⟨gLive.int, (List.forall_mem_cons.mp (List.forall_mem_cons.mp hv2).2).2⟩) hZ
theorem x_ineg {x : Int32} (hd : decode j.2.1 pc = .ok (.ineg, 1)) (k : gX K B dp mc ms j (pc + 1) lv (vI (-x) :: st) cl sl ι ρ Λ Q) : gX K B dp mc ms j pc lv (vI x :: st) cl sl ι ρ Λ Q := by
  intro p e R s m args below meth c H locs ls ad Z C hR hS hl hv1 hv2 hZ
  refine lv_ineg C.1 C.2.1 hd ?_
  exact k p e R s m args below meth c H locs ls ad Z C hR hS hl hv1 (List.forall_mem_cons.mpr ⟨gLive.int, (List.forall_mem_cons.mp hv2).2⟩) hZ
theorem x_dup {v : gV} (hd : decode j.2.1 pc = .ok (.dup, 1)) (k : gX K B dp mc ms j (pc + 1) lv (v :: v :: st) cl sl ι ρ Λ Q) : gX K B dp mc ms j pc lv (v :: st) cl sl ι ρ Λ Q := by
  intro p e R s m args below meth c H locs ls ad Z C hR hS hl hv1 hv2 hZ
  refine lv_dup C.1 C.2.1 hd (gc_cat ad v) ?_
  exact k p e R s m args below meth c H locs ls ad Z C hR hS hl hv1 (List.forall_mem_cons.mpr ⟨(List.forall_mem_cons.mp hv2).1, hv2⟩) hZ
theorem x_pop {v : gV} (hd : decode j.2.1 pc = .ok (.pop, 1)) (k : gX K B dp mc ms j (pc + 1) lv st cl sl ι ρ Λ Q) : gX K B dp mc ms j pc lv (v :: st) cl sl ι ρ Λ Q := by
  intro p e R s m args below meth c H locs ls ad Z C hR hS hl hv1 hv2 hZ
  refine lv_pop C.1 C.2.1 hd (gc_cat ad v) ?_
  exact k p e R s m args below meth c H locs ls ad Z C hR hS hl hv1 (List.forall_mem_cons.mp hv2).2 hZ
theorem x_dup_x1 {v w : gV} (hd : decode j.2.1 pc = .ok (.dup_x1, 1)) (k : gX K B dp mc ms j (pc + 1) lv (v :: w :: v :: st) cl sl ι ρ Λ Q) : gX K B dp mc ms j pc lv (v :: w :: st) cl sl ι ρ Λ Q := by
  intro p e R s m args below meth c H locs ls ad Z C hR hS hl hv1 hv2 hZ
  refine lv_dup_x1 C.1 C.2.1 hd (gc_cat ad v) (gc_cat ad w) ?_
  obtain ⟨h1, h2⟩ := List.forall_mem_cons.mp hv2
  obtain ⟨h2, h3⟩ := List.forall_mem_cons.mp h2
  exact k p e R s m args below meth c H locs ls ad Z C hR hS hl hv1 (List.forall_mem_cons.mpr ⟨h1, List.forall_mem_cons.mpr ⟨h2, List.forall_mem_cons.mpr ⟨h1, h3⟩⟩⟩) hZ
theorem x_dup2 {v w : gV} (hd : decode j.2.1 pc = .ok (.dup2, 1)) (k : gX K B dp mc ms j (pc + 1) lv (v :: w :: v :: w :: st) cl sl ι ρ Λ Q) : gX K B dp mc ms j pc lv (v :: w :: st) cl sl ι ρ Λ Q := by
  intro p e R s m args below meth c H locs ls ad Z C hR hS hl hv1 hv2 hZ
  refine lv_dup2_11 C.1 C.2.1 hd (gc_cat ad v) (gc_cat ad w) ?_
  obtain ⟨h1, h2⟩ := List.forall_mem_cons.mp hv2
  obtain ⟨h2, h3⟩ := List.forall_mem_cons.mp h2
  exact k p e R s m args below meth c H locs ls ad Z C hR hS hl hv1 (List.forall_mem_cons.mpr ⟨h1, List.forall_mem_cons.mpr ⟨h2, hv2⟩⟩) hZ
theorem x_goto {off : Int} (tgt : Nat) (hd : decode j.2.1 pc = .ok (.goto off, 3)) (ht : (pc : Int) + off = (tgt : Int)) (k : gX K B dp mc ms j tgt lv st cl sl ι ρ Λ Q) : gX K B dp mc ms j pc lv st cl sl ι ρ Λ Q := by
  intro p e R s m args below meth c H locs ls ad Z C hR hS hl hv1 hv2 hZ
  exact lv_goto C.1 C.2.1 hd ht (k p e R s m args below meth c H locs ls ad Z C hR hS hl hv1 hv2 hZ)
theorem x_if_eq {x : Int32} {off : Int} (tgt : Nat) (hd : decode j.2.1 pc = .ok (.ifCond .eq off, 3)) (ht : (pc : Int) + off = (tgt : Int)) (kt : x = 0 → gX K B dp mc ms j tgt lv st cl sl ι ρ Λ Q) (kf : ¬ x = 0 → gX K B dp mc ms j (pc + 3) lv st cl sl ι ρ Λ Q) : gX K B dp mc ms j pc lv (vI x :: st) cl sl ι ρ Λ Q := by
  intro p e R s m args below meth c H locs ls ad Z C hR hS hl hv1 hv2 hZ
  have h2 := (List.forall_mem_cons.mp hv2).2
  exact lv_if_eq C.1 C.2.1 hd ht (fun h => kt h p e R s m args below meth c H locs ls ad Z C hR hS hl hv1 h2 hZ) (fun h => kf h p e R s m args below meth c H locs ls ad Z C hR hS hl hv1 h2 hZ)
theorem x_icmp_eq {x y : Int32} {off : Int} (tgt : Nat) (hd : decode j.2.1 pc = .ok (.if_icmp .eq off, 3)) (ht : (pc : Int) + off = (tgt : Int)) (kt : x = y → gX K B dp mc ms j tgt lv st cl sl ι ρ Λ Q) (kf : ¬ x = y → gX K B dp mc ms j (pc + 3) lv st cl sl ι ρ Λ Q) : gX K B dp mc ms j pc lv (vI y :: vI x :: st) cl sl ι ρ Λ Q := by
  intro p e R s m args below meth c H locs ls ad Z C hR hS hl hv1 hv2 hZ
  have h2 := (List.forall_mem_cons.mp (List.forall_mem_cons.mp hv2).2).2
  exact lv_icmp_eq C.1 C.2.1 hd ht (fun h => kt h p e R s m args below meth c H locs ls ad Z C hR hS hl hv1 h2 hZ) (fun h => kf h p e R s m args below meth c H locs ls ad Z C hR hS hl hv1 h2 hZ)
theorem x_if_ne {x : Int32} {off : Int} (tgt : Nat) (hd : decode j.2.1 pc = .ok (.ifCond .ne off, 3)) (ht : (pc : Int) + off = (tgt : Int)) (kt : ¬ x = 0 → gX K B dp mc ms j tgt lv st cl sl ι ρ Λ Q) (kf : x = 0 → gX K B dp mc ms j (pc + 3) lv st cl sl ι ρ Λ Q) : gX K B dp mc ms j pc lv (vI x :: st) cl sl ι ρ Λ Q := by
  intro p e R s m args below meth c H locs ls ad Z C hR hS hl hv1 hv2 hZ
  have h2 := (List.forall_mem_cons.mp hv2).2
  exact lv_if_ne C.1 C.2.1 hd ht (fun h => kt h p e R s m args below meth c H locs ls ad Z C hR hS hl hv1 h2 hZ) (fun h => kf h p e R s m args below meth c H locs ls ad Z C hR hS hl hv1 h2 hZ)
theorem x_icmp_ne {x y : Int32} {off : Int} (tgt : Nat) (hd : decode j.2.1 pc = .ok (.if_icmp .ne off, 3)) (ht : (pc : Int) + off = (tgt : Int)) (kt : ¬ x = y → gX K B dp mc ms j tgt lv st cl sl ι ρ Λ Q) (kf : x = y → gX K B dp mc ms j (pc + 3) lv st cl sl ι ρ Λ Q) : gX K B dp mc ms j pc lv (vI y :: vI x :: st) cl sl ι ρ Λ Q := by
  intro p e R s m args below meth c H locs ls ad Z C hR hS hl hv1 hv2 hZ
  have h2 := (List.forall_mem_cons.mp (List.forall_mem_cons.mp hv2).2).2
  exact lv_icmp_ne C.1 C.2.1 hd ht (fun h => kt h p e R s m args below meth c H locs ls ad Z C hR hS hl hv1 h2 hZ) (fun h => kf h p e R s m args below meth c H locs ls ad Z C hR hS hl hv1 h2 hZ)
theorem x_if_lt {x : Int32} {off : Int} (tgt : Nat) (hd : decode j.2.1 pc = .ok (.ifCond .lt off, 3)) (ht : (pc : Int) + off = (tgt : Int)) (kt : x < 0 → gX K B dp mc ms j tgt lv st cl sl ι ρ Λ Q) (kf : ¬ x < 0 → gX K B dp mc ms j (pc + 3) lv st cl sl ι ρ Λ Q) : gX K B dp mc ms j pc lv (vI x :: st) cl sl ι ρ Λ Q := by
  intro p e R s m args below meth c H locs ls ad Z C hR hS hl hv1 hv2 hZ
  have h2 := (List.forall_mem_cons.mp hv2).2
  exact lv_if_lt C.1 C.2.1 hd ht (fun h => kt h p e R s m args below meth c H locs ls ad Z C hR hS hl hv1 h2 hZ) (fun h => kf h p e R s m args below meth c H locs ls ad Z C hR hS hl hv1 h2 hZ)
theorem x_icmp_lt {x y : Int32} {off : Int} (tgt : Nat) (hd : decode j.2.1 pc = .ok (.if_icmp .lt off, 3)) (ht : (pc : Int) + off = (tgt : Int)) (kt : x < y → gX K B dp mc ms j tgt lv st cl sl ι ρ Λ Q) (kf : ¬ x < y → gX K B dp mc ms j (pc + 3) lv st cl sl ι ρ Λ Q) : gX K B dp mc ms j pc lv (vI y :: vI x :: st) cl sl ι ρ Λ Q := by
  intro p e R s m args below meth c H locs ls ad Z C hR hS hl hv1 hv2 hZ
  have h2 := (List.forall_mem_cons.mp (List.forall_mem_cons.mp hv2).2).2
  exact lv_icmp_lt C.1 C.2.1 hd ht (fun h => kt h p e R s m args below meth c H locs ls ad Z C hR hS hl hv1 h2 hZ) (fun h => kf h p e R s m args below meth c H locs ls ad Z C hR hS hl hv1 h2 hZ)
theorem x_if_ge {x : Int32} {off : Int} (tgt : Nat) (hd : decode j.2.1 pc = .ok (.ifCond .ge off, 3)) (ht : (pc : Int) + off = (tgt : Int)) (kt : 0 ≤ x → gX K B dp mc ms j tgt lv st cl sl ι ρ Λ Q) (kf : ¬ 0 ≤ x → gX K B dp mc ms j (pc + 3) lv st cl sl ι ρ Λ Q) : gX K B dp mc ms j pc lv (vI x :: st) cl sl ι ρ Λ Q := by
  intro p e R s m args below meth c H locs ls ad Z C hR hS hl hv1 hv2 hZ
  have h2 := (List.forall_mem_cons.mp hv2).2
  exact lv_if_ge C.1 C.2.1 hd ht (fun h => kt h p e R s m args below meth c H locs ls ad Z C hR hS hl hv1 h2 hZ) (fun h => kf h p e R s m args below meth c H locs ls ad Z C hR hS hl hv1 h2 hZ)
theorem x_icmp_ge {x y : Int32} {off : Int} (tgt : Nat) (hd : decode j.2.1 pc = .ok (.if_icmp .ge off, 3)) (ht : (pc : Int) + off = (tgt : Int)) (kt : y ≤ x → gX K B dp mc ms j tgt lv st cl sl ι ρ Λ Q) (kf : ¬ y ≤ x → gX K B dp mc ms j (pc + 3) lv st cl sl ι ρ Λ Q) : gX K B dp mc ms j pc lv (vI y :: vI x :: st) cl sl ι ρ Λ Q := by
  intro p e R s m args below meth c H locs ls ad Z C hR hS hl hv1 hv2 hZ
  have h2 := (List.forall_mem_cons.mp (List.forall_mem_cons.mp hv2).2).2
  exact lv_icmp_ge C.1 C.2.1 hd ht (fun h => kt h p e R s m args below meth c H locs ls ad Z C hR hS hl hv1 h2 hZ) (fun h => kf h p e R s m args below meth c H locs ls ad Z C hR hS hl hv1 h2 hZ)
theorem x_if_gt {x : Int32} {off : Int} (tgt : Nat) (hd : decode j.2.1 pc = .ok (.ifCond .gt off, 3)) (ht : (pc : Int) + off = (tgt : Int)) (kt : 0 < x → gX K B dp mc ms j tgt lv st cl sl ι ρ Λ Q) (kf : ¬ 0 < x → gX K B dp mc ms j (pc + 3) lv st cl sl ι ρ Λ Q) : gX K B dp mc ms j pc lv (vI x :: st) cl sl ι ρ Λ Q := by
  intro p e R s m args below meth c H locs ls ad Z C hR hS hl hv1 hv2 hZ
  have h2 := (List.forall_mem_cons.mp hv2).2
  exact lv_if_gt C.1 C.2.1 hd ht (fun h => kt h p e R s m args below meth c H locs ls ad Z C hR hS hl hv1 h2 hZ) (fun h => kf h p e R s m args below meth c H locs ls ad Z C hR hS hl hv1 h2 hZ)
theorem x_icmp_gt {x y : Int32} {off : Int} (tgt : Nat) (hd : decode j.2.1 pc = .ok (.if_icmp .gt off, 3)) (ht : (pc : Int) + off = (tgt : Int)) (kt : y < x → gX K B dp mc ms j tgt lv st cl sl ι ρ Λ Q) (kf : ¬ y < x → gX K B dp mc ms j (pc + 3) lv st cl sl ι ρ Λ Q) : gX K B dp mc ms j pc lv (vI y :: vI x :: st) cl sl ι ρ Λ Q := by
  intro p e R s m args below meth c H locs ls ad Z C hR hS hl hv1 hv2 hZ
  have h2 := (List.forall_mem_cons.mp (List.forall_mem_cons.mp hv2).2).2
  exact lv_icmp_gt C.1 C.2.1 hd ht (fun h => kt h p e R s m args below meth c H locs ls ad Z C hR hS hl hv1 h2 hZ) (fun h => kf h p e R s m args below meth c H locs ls ad Z C hR hS hl hv1 h2 hZ)
theorem x_if_le {x : Int32} {off : Int} (tgt : Nat) (hd : decode j.2.1 pc = .ok (.ifCond .le off, 3)) (ht : (pc : Int) + off = (tgt : Int)) (kt : x ≤ 0 → gX K B dp mc ms j tgt lv st cl sl ι ρ Λ Q) (kf : ¬ x ≤ 0 → gX K B dp mc ms j (pc + 3) lv st cl sl ι ρ Λ Q) : gX K B dp mc ms j pc lv (vI x :: st) cl sl ι ρ Λ Q := by
  intro p e R s m args below meth c H locs ls ad Z C hR hS hl hv1 hv2 hZ
  have h2 := (List.forall_mem_cons.mp hv2).2
  exact lv_if_le C.1 C.2.1 hd ht (fun h => kt h p e R s m args below meth c H locs ls ad Z C hR hS hl hv1 h2 hZ) (fun h => kf h p e R s m args below meth c H locs ls ad Z C hR hS hl hv1 h2 hZ)
theorem x_icmp_le {x y : Int32} {off : Int} (tgt : Nat) (hd : decode j.2.1 pc = .ok (.if_icmp .le off, 3)) (ht : (pc : Int) + off = (tgt : Int)) (kt : x ≤ y → gX K B dp mc ms j tgt lv st cl sl ι ρ Λ Q) (kf : ¬ x ≤ y → gX K B dp mc ms j (pc + 3) lv st cl sl ι ρ Λ Q) : gX K B dp mc ms j pc lv (vI y :: vI x :: st) cl sl ι ρ Λ Q := by
  intro p e R s m args below meth c H locs ls ad Z C hR hS hl hv1 hv2 hZ
  have h2 := (List.forall_mem_cons.mp (List.forall_mem_cons.mp hv2).2).2
  exact lv_icmp_le C.1 C.2.1 hd ht (fun h => kt h p e R s m args below meth c H locs ls ad Z C hR hS hl hv1 h2 hZ) (fun h => kf h p e R s m args below meth c H locs ls ad Z C hR hS hl hv1 h2 hZ)
theorem x_tableOut {dflt lo hi : Int} {offs : Array Int} {len : Nat} {x : Int32} (tgt : Nat) (hd : decode j.2.1 pc = .ok (.tableswitch dflt lo hi offs, len)) (h : x.toInt < lo ∨ hi < x.toInt) (ht : (pc : Int) + dflt = (tgt : Int)) (k : gX K B dp mc ms j tgt lv st cl sl ι ρ Λ Q) : gX K B dp mc ms j pc lv (vI x :: st) cl sl ι ρ Λ Q := by
  intro p e R s m args below meth c H locs ls ad Z C hR hS hl hv1 hv2 hZ
  exact lv_tableOut C.1 C.2.1 hd h ht (k p e R s m args below meth c H locs ls ad Z C hR hS hl hv1 (List.forall_mem_cons.mp hv2).2 hZ)
theorem x_tableIn {dflt lo hi : Int} {offs : Array Int} {len : Nat} {x : Int32} {off : Int} (tgt : Nat) (n : Nat) (hd : decode j.2.1 pc = .ok (.tableswitch dflt lo hi offs, len)) (h1 : ¬ x.toInt < lo) (h2 : ¬ hi < x.toInt) (hn : (x.toInt - lo).toNat = n) (ho : offs[n]? = some off) (ht : (pc : Int) + off = (tgt : Int)) (k : gX K B dp mc ms j tgt lv st cl sl ι ρ Λ Q) : gX K B dp mc ms j pc lv (vI x :: st) cl sl ι ρ Λ Q := by
  intro p e R s m args below meth c H locs ls ad Z C hR hS hl hv1 hv2 hZ
  subst hn
  exact lv_tableIn C.1 C.2.1 hd h1 h2 ho ht (k p e R s m args below meth c H locs ls ad Z C hR hS hl hv1 (List.forall_mem_cons.mp hv2).2 hZ)
theorem x_null (hd : decode j.2.1 pc = .ok (.aconst_null, 1)) (k : gX K B dp mc ms j (pc + 1) lv (vN :: st) cl sl ι ρ Λ Q) : gX K B dp mc ms j pc lv st cl sl ι ρ Λ Q := by
  intro p e R s m args below meth c H locs ls ad Z C hR hS hl hv1 hv2 hZ
  exact lv_null C.1 C.2.1 hd (k p e R s m args below meth c H locs ls ad Z C hR hS hl hv1 (List.forall_mem_cons.mpr ⟨gLive.null, hv2⟩) hZ)
theorem x_ifnull {o : Option Nat} {off : Int} (tgt : Nat) (hd : decode j.2.1 pc = .ok (.ifnull off, 3)) (ht : (pc : Int) + off = (tgt : Int)) (kt : o = none → gX K B dp mc ms j tgt lv st cl sl ι ρ Λ Q) (kf : ∀ a, o = some a → gX K B dp mc ms j (pc + 3) lv st cl sl ι ρ Λ Q) : gX K B dp mc ms j pc lv (vO o :: st) cl sl ι ρ Λ Q := by
  intro p e R s m args below meth c H locs ls ad Z C hR hS hl hv1 hv2 hZ
  have h2 := (List.forall_mem_cons.mp hv2).2
  cases o with
  | none => exact lv_ifnullN C.1 C.2.1 hd ht (kt rfl p e R s m args below meth c H locs ls ad Z C hR hS hl hv1 h2 hZ)
  | some a => exact lv_ifnull C.1 C.2.1 hd (kf a rfl p e R s m args below meth c H locs ls ad Z C hR hS hl hv1 h2 hZ)
theorem x_ifnonnull {o : Option Nat} {off : Int} (tgt : Nat) (hd : decode j.2.1 pc = .ok (.ifnonnull off, 3)) (ht : (pc : Int) + off = (tgt : Int)) (kt : ∀ a, o = some a → gX K B dp mc ms j tgt lv st cl sl ι ρ Λ Q) (kf : o = none → gX K B dp mc ms j (pc + 3) lv st cl sl ι ρ Λ Q) : gX K B dp mc ms j pc lv (vO o :: st) cl sl ι ρ Λ Q := by
  intro p e R s m args below meth c H locs ls ad Z C hR hS hl hv1 hv2 hZ
  have h2 := (List.forall_mem_cons.mp hv2).2
  cases o with
  | none => exact lv_ifnonnullN C.1 C.2.1 hd (kf rfl p e R s m args below meth c H locs ls ad Z C hR hS hl hv1 h2 hZ)
  | some a => exact lv_ifnonnull C.1 C.2.1 hd ht (kt a rfl p e R s m args below meth c H locs ls ad Z C hR hS hl hv1 h2 hZ)
theorem x_ireturn {x : Int32} (hd : decode j.2.1 pc = .ok (.ireturn, 1)) (hr : j.2.2.2 = some .int) (hq : Q (some (vI x)) ι ρ Λ) : gX K B dp mc ms j pc lv [vI x] mc ms ι ρ Λ Q := by
  intro p e R s m args below meth c H locs ls ad Z C hR hS hl hv1 hv2 hZ
  exact hZ pc ls (some (vI x)) ι ρ Λ ad H locs hq hR gExt.rf (fun v h => by cases h; exact gLive.int) hS ⟨hd, Or.inl hr⟩
theorem x_zreturn {x : Int32} (hd : decode j.2.1 pc = .ok (.ireturn, 1)) (hr : j.2.2.2 = some .boolean) (hx : x = 0 ∨ x = 1) (hq : Q (some (vI x)) ι ρ Λ) : gX K B dp mc ms j pc lv [vI x] mc ms ι ρ Λ Q := by
  intro p e R s m args below meth c H locs ls ad Z C hR hS hl hv1 hv2 hZ
  exact hZ pc ls (some (vI x)) ι ρ Λ ad H locs hq hR gExt.rf (fun v h => by cases h; exact gLive.int) hS ⟨hd, Or.inr ⟨hr, hx⟩⟩
theorem x_areturn {o : Option Nat ⊕ Nat} (hd : decode j.2.1 pc = .ok (.areturn, 1)) (hr : ∃ rt, j.2.2.2 = some rt ∧ ((∃ n, rt = .object n) ∨ ∃ t, rt = .array t)) (hq : Q (some (Sum.inr o)) ι ρ Λ) : gX K B dp mc ms j pc lv [Sum.inr o] mc ms ι ρ Λ Q := by
  intro p e R s m args below meth c H locs ls ad Z C hR hS hl hv1 hv2 hZ
  exact hZ pc ls (some (Sum.inr o)) ι ρ Λ ad H locs hq hR gExt.rf (fun v h => by cases h; exact (List.forall_mem_cons.mp hv2).1) hS ⟨hd, hr⟩
theorem x_return (hd : decode j.2.1 pc = .ok (.return_, 1)) (hr : j.2.2.2 = none) (hq : Q none ι ρ Λ) : gX K B dp mc ms j pc lv [] mc ms ι ρ Λ Q := by
  intro p e R s m args below meth c H locs ls ad Z C hR hS hl hv1 hv2 hZ
  exact hZ pc ls none ι ρ Λ ad H locs hq hR gExt.rf (fun v h => by cases h) hS ⟨hd, hr⟩
theorem x_nm {x : Int32} (k : ∀ y, y = x → gX K B dp mc ms j pc lv (vI y :: st) cl sl ι ρ Λ Q) : gX K B dp mc ms j pc lv (vI x :: st) cl sl ι ρ Λ Q := k x rfl
theorem x_if_eq_b {p : Prop} [Decidable p] {off : Int} (tgt : Nat) (hd : decode j.2.1 pc = .ok (.ifCond .eq off, 3)) (ht : (pc : Int) + off = (tgt : Int)) (kt : ¬ p → gX K B dp mc ms j tgt lv st cl sl ι ρ Λ Q) (kf : p → gX K B dp mc ms j (pc + 3) lv st cl sl ι ρ Λ Q) : gX K B dp mc ms j pc lv (vI (b2i p) :: st) cl sl ι ρ Λ Q :=
  x_if_eq tgt hd ht (fun h => kt (fun hp => by rw [b2i, if_pos hp] at h; exact absurd h (by decide))) (fun h => kf (Decidable.byContradiction fun hp => h (if_neg hp)))
theorem x_if_ne_b {p : Prop} [Decidable p] {off : Int} (tgt : Nat) (hd : decode j.2.1 pc = .ok (.ifCond .ne off, 3)) (ht : (pc : Int) + off = (tgt : Int)) (kt : p → gX K B dp mc ms j tgt lv st cl sl ι ρ Λ Q) (kf : ¬ p → gX K B dp mc ms j (pc + 3) lv st cl sl ι ρ Λ Q) : gX K B dp mc ms j pc lv (vI (b2i p) :: st) cl sl ι ρ Λ Q :=
  x_if_ne tgt hd ht (fun h => kt (Decidable.byContradiction fun hp => h (if_neg hp))) (fun h => kf (fun hp => by rw [b2i, if_pos hp] at h; exact absurd h (by decide)))
theorem x_widen (cl' sl' : Nat) (h1 : cl ≤ cl') (h2 : sl ≤ sl') (k : gX K B dp mc ms j pc lv st cl' sl' ι ρ Λ Q) : gX K B dp mc ms j pc lv st cl sl ι ρ Λ Q := by
  intro p e R s m args below meth c H locs ls ad Z C hR hS hl hv1 hv2 hZ
  exact W.widen h1 h2 (k p e R s m args below meth c H locs ls ad Z C hR hS hl hv1 hv2 hZ)
/-- fewer locals are known -/
theorem x_less {lv' : List (Option gV)} (h : ∀ (i : Nat) (v : gV), lv'[i]? = some (some v) → lv[i]? = some (some v)) (k : gX K B dp mc ms j pc lv' st cl sl ι ρ Λ Q) : gX K B dp mc ms j pc lv st cl sl ι ρ Λ Q := by
  intro p e R s m args below meth c H locs ls ad Z C hR hS hl hv1 hv2 hZ
  refine k p e R s m args below meth c H locs ls ad Z C hR hS ⟨hl.1, hl.2.1, fun i v hi => hl.2.2 i v (h i v hi)⟩ (fun v hv => ?_) hv2 hZ
  obtain ⟨i, hi⟩ := List.getElem?_of_mem hv
  exact hv1 v (List.mem_of_getElem? (h i v hi))
theorem x_post {Q' : gQ} (h : ∀ r a b c, Q' r a b c → Q r a b c) (k : gX K B dp mc ms j pc lv st cl sl ι ρ Λ Q') : gX K B dp mc ms j pc lv st cl sl ι ρ Λ Q := by
  intro p e R s m args below meth c H locs ls ad Z C hR hS hl hv1 hv2 hZ
  exact k p e R s m args below meth c H locs ls ad Z C hR hS hl hv1 hv2 (fun pc' ls' r ι' ρ' Λ' ad' H' locs' hq => hZ pc' ls' r ι' ρ' Λ' ad' H' locs' (h _ _ _ _ hq))
end RULES
