/-! rows that read and write the memory -/
section MEM
variable {K : gK} {B : gB} {dp mc ms : Nat} {j : gJ} {pc : Nat} {lv : List (Option gV)} {st : List gV} {cl sl : Nat} {ι : gIm} {ρ : gRm} {Λ : gLm} {Q : gQ}
theorem gFs_val {ad : Nat → Nat} {r : Nat → Int32} {q : Nat → Option Nat} {ci k : Nat} (h : k < gNf ci) (hr : gIsR ci k = false) : (gFs ad r q ci)[k]? = some (.int (r k)) := by
  rw [gFs_at h]; unfold gFv; rw [hr]; rfl
theorem gFs_ref {ad : Nat → Nat} {r : Nat → Int32} {q : Nat → Option Nat} {ci k : Nat} (h : k < gNf ci) (hr : gIsR ci k = true) : (gFs ad r q ci)[k]? = some (va_rf ((q k).map ad)) := by
  rw [gFs_at h]; unfold gFv; rw [hr]; rfl
theorem rd1 {α : Type} {z ι : Nat → Nat → α} {c0 k0 c k : Nat} {v : α} (e : z = up2 ι c0 k0 v) (h : c ≠ c0) : z c k = ι c k := by rw [e, up2_ne _ _ _ h]
theorem rd2 {α : Type} {z ι : Nat → Nat → α} {c0 k0 c k : Nat} {v : α} (e : z = up2 ι c0 k0 v) (h : k ≠ k0) : z c k = ι c k := by
  rw [e]
  by_cases hc : c = c0
  · subst hc; rw [up2_row, va_up_ne _ _ h]
  · rw [up2_ne _ _ _ hc]
theorem rdv {α : Type} {z ι : Nat → Nat → α} {c0 k0 : Nat} {v : α} (e : z = up2 ι c0 k0 v) : z c0 k0 = v := by rw [e, up2_row, va_up_self]
theorem x_geti {idx c ci : Nat} {v : Int32} (k : Nat) (hd : decode j.2.1 pc = .ok (.getfield idx, 3)) (hf : gFld j.1.cls idx ci k ∨ gFldF j.1.cls idx ci k) (hs : shp c = ci) (hr : gIsR ci k = false) (hv : ι c k = v) (kk : gX K B dp mc ms j (pc + 3) lv (vI v :: st) cl sl ι ρ Λ Q) : gX K B dp mc ms j pc lv (vR c :: st) cl sl ι ρ Λ Q := by
  intro p e R s m args below meth c0 H locs ls ad Z C hR hS hl hv1 hv2 hZ
  subst hv
  obtain ⟨hx, hb, hml, hown, hts, hmn, hrm, hA, hKs, hB⟩ := id C
  obtain ⟨hin, h2⟩ := List.forall_mem_cons.mp hv2
  have hf : ∃ q : vw_C, gcl[ci]? = some q ∧ k < q.2.2 ∧ Cond.fieldLink j.1.cls idx q.1 (q.2.1 k).2.1 (q.2.1 k).2.2.1 ∈ gT := hf.elim (fun ⟨q, a, b, c, _⟩ => ⟨q, a, b, c⟩) (fun ⟨q, a, b, c, _⟩ => ⟨q, a, b, c⟩)
  obtain ⟨⟨C', T', N'⟩, hq, hk, hw⟩ := hf
  obtain ⟨q0, hq0⟩ := gW_get (dA := K.2.1.2) (ad := ad) (ι := ι) (ρ := ρ) (hin c rfl)
  rw [gE_obj hs (gcl_lt hq)] at hq0
  refine va_get (D := K.2.1.1) (C := C') (T := T') (N := N') (ref := C') (v := .int (ι c k)) hx hb hts (gcl_in ci _ hq) hown hKs.1 hR.1 q0 hq0 hq k hk (hts _ hw) (fun x h => by rw [show (T' k).1 = C' from gcl_ed ci _ hq k hk] at h; exact h) (gFs_val (by rw [gNf_of hq]; exact hk) hr) hd ?_
  exact kk p e R s m args below meth c0 H locs ls ad Z C hR hS hl hv1 (List.forall_mem_cons.mpr ⟨gLive.int, h2⟩) hZ
theorem x_getr {idx c ci : Nat} (k : Nat) (o : Option Nat) (hd : decode j.2.1 pc = .ok (.getfield idx, 3)) (hf : gFld j.1.cls idx ci k ∨ gFldF j.1.cls idx ci k) (hs : shp c = ci) (hr : gIsR ci k = true) (ho : ρ c k = o) (kk : gX K B dp mc ms j (pc + 3) lv (vO o :: st) cl sl ι ρ Λ Q) : gX K B dp mc ms j pc lv (vR c :: st) cl sl ι ρ Λ Q := by
  intro p e R s m args below meth c0 H locs ls ad Z C hR hS hl hv1 hv2 hZ
  subst ho
  obtain ⟨hx, hb, hml, hown, hts, hmn, hrm, hA, hKs, hB⟩ := id C
  obtain ⟨hin, h2⟩ := List.forall_mem_cons.mp hv2
  have hf : ∃ q : vw_C, gcl[ci]? = some q ∧ k < q.2.2 ∧ Cond.fieldLink j.1.cls idx q.1 (q.2.1 k).2.1 (q.2.1 k).2.2.1 ∈ gT := hf.elim (fun ⟨q, a, b, c, _⟩ => ⟨q, a, b, c⟩) (fun ⟨q, a, b, c, _⟩ => ⟨q, a, b, c⟩)
  obtain ⟨⟨C', T', N'⟩, hq, hk, hw⟩ := hf
  obtain ⟨q0, hq0⟩ := gW_get (dA := K.2.1.2) (ad := ad) (ι := ι) (ρ := ρ) (hin c rfl)
  rw [gE_obj hs (gcl_lt hq)] at hq0
  refine va_get (D := K.2.1.1) (C := C') (T := T') (N := N') (ref := C') (v := va_rf ((ρ c k).map ad)) hx hb hts (gcl_in ci _ hq) hown hKs.1 hR.1 q0 hq0 hq k hk (hts _ hw) (fun x h => by rw [show (T' k).1 = C' from gcl_ed ci _ hq k hk] at h; exact h) (gFs_ref (by rw [gNf_of hq]; exact hk) hr) hd ?_
  exact kk p e R s m args below meth c0 H locs ls ad Z C hR hS hl hv1 (List.forall_mem_cons.mpr ⟨gLive.opt fun d hd2 => hR.2.2 c k d (hin c rfl) hd2, h2⟩) hZ
theorem gClosed_up {Λ : gLm} {ρ : gRm} {c k : Nat} {o : Option Nat} (h : ∀ c k d, c ∈ Λ.1 → ρ c k = some d → d ∈ Λ.1) (ho : ∀ d, o = some d → d ∈ Λ.1) : ∀ c' k' d, c' ∈ Λ.1 → up2 ρ c k o c' k' = some d → d ∈ Λ.1 := by
  intro c' k' d hc hd
  by_cases h1 : c' = c
  · subst h1
    rw [up2_row] at hd
    by_cases h2 : k' = k
    · subst h2
      rw [va_up_self] at hd
      exact ho d hd
    · rw [va_up_ne _ _ h2] at hd
      exact h c' k' d hc hd
  · rw [up2_ne _ _ _ h1] at hd
    exact h c' k' d hc hd
theorem gFv_upi {ad : Nat → Nat} {r : Nat → Int32} {q : Nat → Option Nat} {ci k : Nat} {v : Int32} : ∀ i, i ≠ k → gFv ad (va_up r k v) q ci i = gFv ad r q ci i := fun i hi => by unfold gFv; rw [va_up_ne _ _ hi]
theorem gFv_upr {ad : Nat → Nat} {r : Nat → Int32} {q : Nat → Option Nat} {ci k : Nat} {v : Option Nat} : ∀ i, i ≠ k → gFv ad r (va_up q k v) ci i = gFv ad r q ci i := fun i hi => by unfold gFv; rw [va_up_ne _ _ hi]
theorem x_puti {idx c ci : Nat} {v : Int32} (k : Nat) (hd : decode j.2.1 pc = .ok (.putfield idx, 3)) (hf : gFld j.1.cls idx ci k) (hs : shp c = ci) (hr : gty ci k = .int ∨ (gty ci k = .boolean ∧ (v = 0 ∨ v = 1))) (hr2 : gIsR ci k = false) (kk : ∀ ι', ι' = up2 ι c k v → gX K B dp mc ms j (pc + 3) lv st cl sl ι' ρ Λ Q) : gX K B dp mc ms j pc lv (vI v :: vR c :: st) cl sl ι ρ Λ Q := by
  intro p e R s m args below meth c0 H locs ls ad Z C hR hS hl hv1 hv2 hZ
  obtain ⟨hx, hb, hml, hown, hts, hmn, hrm, hA, hKs, hB⟩ := id C
  obtain ⟨hin, h2⟩ := List.forall_mem_cons.mp (List.forall_mem_cons.mp hv2).2
  obtain ⟨⟨C', T', N'⟩, hq, hk, hw, hfin⟩ := hf
  obtain ⟨q0, hq0⟩ := gW_get (dA := K.2.1.2) (ad := ad) (ι := ι) (ρ := ρ) (hin c rfl)
  have hq1 := hq0
  rw [gE_obj hs (gcl_lt hq)] at hq0
  have hn : narrow (gty ci k) (.int v) = .int v ∧ fits (gty ci k) (.int v) = true := by
    rcases hr with h | ⟨h, rfl | rfl⟩ <;> rw [h] <;> exact ⟨rfl, rfl⟩
  have hE : gE K.2.1.2 ad (up2 ι c k v) ρ Λ.2 c = .inr (ci, (gFs ad (ι c) (ρ c) ci).set k (.int v)) := by
    rw [gE_obj hs (gcl_lt hq), up2_row, ← gFs_set (k := k) (gFv_upi (ad := ad) (r := ι c) (q := ρ c) (ci := ci) (v := v))]
    congr 3
    unfold gFv
    rw [hr2, va_up_self]; rfl
  have hW := gW_set (e := .inr (ci, (gFs ad (ι c) (ρ c) ci).set k (.int v))) hR.2.1 (hin c rfl) hq1 hE (fun d hd2 => gE_same (up2_ne ι k v hd2) rfl)
  refine va_put (D := K.2.1.1) (C := C') (T := T') (N := N') (ref := C') (v := .int v) hx hb hts (gcl_in ci _ hq) (gty ci) (gcl_ty ci _ hq) (gcl_nm ci _ hq) hown hKs.1 hR.1 hR.2.1 hS q0 hq0 hq k hk (hts _ hw) (fun x h => by rw [show (T' k).1 = C' from gcl_ed ci _ hq k hk] at h; exact h) hfin (gcl_ty ci _ hq k hk) hn.1 hn.2 (by rw [gFs_len, gNf_of hq]; exact hk) hd (fun H1 locs1 hP1 hD1 hS1 => ?_)
  rw [hW] at hP1 hD1
  exact kk _ rfl p e R s m args below meth c0 H1 locs1 ls ad Z C ⟨hP1, hD1, hR.2.2⟩ hS1 hl hv1 h2 hZ
/-- a final int field, in the constructor -/
theorem x_putiF {idx c ci : Nat} {v : Int32} (k : Nat) (hd : decode j.2.1 pc = .ok (.putfield idx, 3)) (hf : gFldF j.1.cls idx ci k) (hj : j.1.name = "<init>") (ho : (gcl.getD ci ("", gf0, 0)).1 = j.1.cls) (hs : shp c = ci) (hr : gty ci k = .int ∨ (gty ci k = .boolean ∧ (v = 0 ∨ v = 1))) (hr2 : gIsR ci k = false) (kk : ∀ ι', ι' = up2 ι c k v → gX K B dp mc ms j (pc + 3) lv st cl sl ι' ρ Λ Q) : gX K B dp mc ms j pc lv (vI v :: vR c :: st) cl sl ι ρ Λ Q := by
  intro p e R s m args below meth c0 H locs ls ad Z C hR hS hl hv1 hv2 hZ
  obtain ⟨hx, hb, hml, hown, hts, hmn, hrm, hA, hKs, hB⟩ := id C
  obtain ⟨hin, h2⟩ := List.forall_mem_cons.mp (List.forall_mem_cons.mp hv2).2
  obtain ⟨⟨C', T', N'⟩, hq, hk, hw, hfin⟩ := hf
  obtain ⟨q0, hq0⟩ := gW_get (dA := K.2.1.2) (ad := ad) (ι := ι) (ρ := ρ) (hin c rfl)
  have hq1 := hq0
  rw [gE_obj hs (gcl_lt hq)] at hq0
  have hn : narrow (gty ci k) (.int v) = .int v ∧ fits (gty ci k) (.int v) = true := by
    rcases hr with h | ⟨h, rfl | rfl⟩ <;> rw [h] <;> exact ⟨rfl, rfl⟩
  have hE : gE K.2.1.2 ad (up2 ι c k v) ρ Λ.2 c = .inr (ci, (gFs ad (ι c) (ρ c) ci).set k (.int v)) := by
    rw [gE_obj hs (gcl_lt hq), up2_row, ← gFs_set (k := k) (gFv_upi (ad := ad) (r := ι c) (q := ρ c) (ci := ci) (v := v))]
    congr 3
    unfold gFv
    rw [hr2, va_up_self]; rfl
  have hW := gW_set (e := .inr (ci, (gFs ad (ι c) (ρ c) ci).set k (.int v))) hR.2.1 (hin c rfl) hq1 hE (fun d hd2 => gE_same (up2_ne ι k v hd2) rfl)
  have hcc : C' = j.1.cls := by
    rw [List.getD_eq_getElem?_getD, hq] at ho
    exact ho
  refine va_putF (D := K.2.1.1) (C := C') (T := T') (N := N') (ref := C') (v := .int v) hx hb hts (gcl_in ci _ hq) (gty ci) (gcl_ty ci _ hq) (gcl_nm ci _ hq) hown hKs.1 hR.1 hR.2.1 hS q0 hq0 hq k hk (hts _ hw) (fun x h => by rw [show (T' k).1 = C' from gcl_ed ci _ hq k hk] at h; exact h) hfin (hmn.trans hj) (by rw [show (T' k).1 = C' from gcl_ed ci _ hq k hk]; exact hcc) (gcl_ty ci _ hq k hk) hn.1 hn.2 (by rw [gFs_len, gNf_of hq]; exact hk) hd (fun H1 locs1 hP1 hD1 hS1 => ?_)
  rw [hW] at hP1 hD1
  exact kk _ rfl p e R s m args below meth c0 H1 locs1 ls ad Z C ⟨hP1, hD1, hR.2.2⟩ hS1 hl hv1 h2 hZ
theorem gRefOk {ci k : Nat} (h : (∃ n, gty ci k = .object n) ∨ ∃ t, gty ci k = .array t) (o : Option Nat) : narrow (gty ci k) (va_rf o) = va_rf o ∧ fits (gty ci k) (va_rf o) = true := by
  rcases h with ⟨n, h⟩ | ⟨t, h⟩ <;> rw [h] <;> cases o <;> exact ⟨rfl, rfl⟩
/-- a final reference field, in the constructor -/
theorem x_putrF {idx c ci : Nat} {o : Option Nat} (k : Nat) (hd : decode j.2.1 pc = .ok (.putfield idx, 3)) (hf : gFldF j.1.cls idx ci k) (hj : j.1.name = "<init>") (ho : (gcl.getD ci ("", gf0, 0)).1 = j.1.cls) (hs : shp c = ci) (hr : (∃ n, gty ci k = .object n) ∨ ∃ t, gty ci k = .array t) (hr2 : gIsR ci k = true) (kk : ∀ ρ', ρ' = up2 ρ c k o → gX K B dp mc ms j (pc + 3) lv st cl sl ι ρ' Λ Q) : gX K B dp mc ms j pc lv (vO o :: vR c :: st) cl sl ι ρ Λ Q := by
  intro p e R s m args below meth c0 H locs ls ad Z C hR hS hl hv1 hv2 hZ
  obtain ⟨hx, hb, hml, hown, hts, hmn, hrm, hA, hKs, hB⟩ := id C
  obtain ⟨hlo, hv3⟩ := List.forall_mem_cons.mp hv2
  obtain ⟨hin, h2⟩ := List.forall_mem_cons.mp hv3
  obtain ⟨⟨C', T', N'⟩, hq, hk, hw, hfin⟩ := hf
  obtain ⟨q0, hq0⟩ := gW_get (dA := K.2.1.2) (ad := ad) (ι := ι) (ρ := ρ) (hin c rfl)
  have hq1 := hq0
  rw [gE_obj hs (gcl_lt hq)] at hq0
  have hn := gRefOk hr (o.map ad)
  have hE : gE K.2.1.2 ad ι (up2 ρ c k o) Λ.2 c = .inr (ci, (gFs ad (ι c) (ρ c) ci).set k (va_rf (o.map ad))) := by
    rw [gE_obj hs (gcl_lt hq), up2_row, ← gFs_set (k := k) (gFv_upr (ad := ad) (r := ι c) (q := ρ c) (ci := ci) (v := o))]
    congr 3
    unfold gFv
    rw [hr2, va_up_self]; rfl
  have hW := gW_set (e := .inr (ci, (gFs ad (ι c) (ρ c) ci).set k (va_rf (o.map ad)))) hR.2.1 (hin c rfl) hq1 hE (fun d hd2 => gE_same rfl (up2_ne ρ k o hd2))
  have hcc : C' = j.1.cls := by
    rw [List.getD_eq_getElem?_getD, hq] at ho
    exact ho
  refine va_putF (D := K.2.1.1) (C := C') (T := T') (N := N') (ref := C') (v := va_rf (o.map ad)) hx hb hts (gcl_in ci _ hq) (gty ci) (gcl_ty ci _ hq) (gcl_nm ci _ hq) hown hKs.1 hR.1 hR.2.1 hS q0 hq0 hq k hk (hts _ hw) (fun x h => by rw [show (T' k).1 = C' from gcl_ed ci _ hq k hk] at h; exact h) hfin (hmn.trans hj) (by rw [show (T' k).1 = C' from gcl_ed ci _ hq k hk]; exact hcc) (gcl_ty ci _ hq k hk) hn.1 hn.2 (by rw [gFs_len, gNf_of hq]; exact hk) hd (fun H1 locs1 hP1 hD1 hS1 => ?_)
  rw [hW] at hP1 hD1
  exact kk _ rfl p e R s m args below meth c0 H1 locs1 ls ad Z C ⟨hP1, hD1, gClosed_up hR.2.2 (fun d h => hlo d (by rw [h]))⟩ hS1 hl hv1 h2 hZ
end MEM
