/-! new cells, calls, a method from its entry -/
section NEW
variable {K : gK} {B : gB} {dp mc ms : Nat} {j : gJ} {pc : Nat} {lv : List (Option gV)} {st : List gV} {cl sl : Nat} {ι : gIm} {ρ : gRm} {Λ : gLm} {Q : gQ}
/-- the memory with one cell more, all 0 and null -/
theorem gE_old {dA : Nat → ClassId} {ad : Nat → Nat} {ι : gIm} {ρ : gRm} {Λ : gLm} {c q n d : Nat} (hcl : ∀ c k d, c ∈ Λ.1 → ρ c k = some d → d ∈ Λ.1) (hc : c ∉ Λ.1) (hd : d ∈ Λ.1) :
    gE dA (va_up ad c q) (va_up ι c (fun _ => 0)) (va_up ρ c (fun _ => none)) (va_up Λ.2 c n) d = gE dA ad ι ρ Λ.2 d := by
  have hdc : d ≠ c := fun h => hc (h ▸ hd)
  have hm : ∀ k, (ρ d k).map (va_up ad c q) = (ρ d k).map ad := by
    intro k
    cases h : ρ d k with
    | none => rfl
    | some x =>
      have hx : x ≠ c := fun z => hc (z ▸ hcl d k x hd h)
      show some _ = some _
      rw [va_up_ne _ _ hx]
  unfold gE gFs
  simp only [va_up_ne _ _ hdc, hm]
  congr 3
  congr 1
  funext k
  unfold gFv
  rw [hm]
theorem gW_push {dA : Nat → ClassId} {ad : Nat → Nat} {ι : gIm} {ρ : gRm} {Λ : gLm} {c q n : Nat} {e : va_E} (hcl : ∀ c k d, c ∈ Λ.1 → ρ c k = some d → d ∈ Λ.1) (hc : c ∉ Λ.1)
    (he : gE dA (va_up ad c q) (va_up ι c (fun _ => 0)) (va_up ρ c (fun _ => none)) (va_up Λ.2 c n) c = e) :
    gW dA ad ι ρ Λ ++ [(q, e)] = gW dA (va_up ad c q) (va_up ι c (fun _ => 0)) (va_up ρ c (fun _ => none)) (Λ.1 ++ [c], va_up Λ.2 c n) := by
  unfold gW
  simp only [List.map_append, List.map_cons, List.map_nil, he, va_up_self]
  congr 1
  apply List.map_congr_left
  intro d hd
  have hdc : d ≠ c := fun h => hc (h ▸ hd)
  rw [va_up_ne _ _ hdc, gE_old hcl hc hd]
theorem gExt.new {ad : Nat → Nat} {Λ : gLm} {c q n : Nat} (hc : c ∉ Λ.1) : gExt ad Λ (va_up ad c q) (Λ.1 ++ [c], va_up Λ.2 c n) := fun d hd => ⟨va_up_ne _ _ (fun h => hc (h ▸ hd)), List.mem_append_left _ hd⟩
theorem gClosed_new {Λ : gLm} {ρ : gRm} {c n : Nat} (h : ∀ c k d, c ∈ Λ.1 → ρ c k = some d → d ∈ Λ.1) : ∀ c' k d, c' ∈ (Λ.1 ++ [c], va_up Λ.2 c n).1 → (va_up ρ c (fun _ => none)) c' k = some d → d ∈ (Λ.1 ++ [c], va_up Λ.2 c n).1 := by
  intro c' k d hc hd
  by_cases h1 : c' = c
  · subst h1
    rw [va_up_self] at hd
    cases hd
  · rw [va_up_ne _ _ h1] at hd
    rcases List.mem_append.mp hc with h2 | h2
    · exact List.mem_append_left _ (h c' k d h2 hd)
    · exact absurd (List.mem_singleton.mp h2) h1
theorem x_new {idx ci : Nat} (c n : Nat) (hd : decode j.2.1 pc = .ok (.new idx, 3)) (hs : shp c = ci) (q : vw_C) (hq : gcl[ci]? = some q) (hn : q.2.2 = n) (hw : Cond.classLink j.1.cls idx q.1 ∈ gT) (hw2 : Cond.instantiable q.1 n ∈ gT) (hw3 : Cond.initialized q.1 ∈ gT) (hc : c ∉ Λ.1) (hcl : cl + 1 ≤ mc) (hsl : sl + n ≤ ms)
    (kk : ∀ ι' ρ' Λ', ι' = va_up ι c (fun _ => 0) → ρ' = va_up ρ c (fun _ => none) → Λ' = (Λ.1 ++ [c], va_up Λ.2 c 0) → gX K B dp mc ms j (pc + 3) lv (vR c :: st) (cl + 1) (sl + n) ι' ρ' Λ' Q) : gX K B dp mc ms j pc lv st cl sl ι ρ Λ Q := by
  intro p e R s m args below meth c0 H locs ls ad Z C hR hS hl hv1 hv2 hZ
  obtain ⟨hx, hb, hml, hown, hts, hmn, hrm, hA, hKs, hB⟩ := id C
  obtain ⟨C', T', N'⟩ := q
  subst hn
  refine va_new (D := K.2.1.1) (ci := ci) (fs := gFs (va_up ad c 0) (fun _ => 0) (fun _ => none) ci) (C := C') (T := T') (N := N') hx hb hts (gcl_in ci _ hq) (gty ci) (gcl_ty ci _ hq) hown (hts _ hw) (hts _ hw2) (hts _ hw3) hKs.1 hR.1 hR.2.1 hS hA hq ?_ (Nat.le_trans hcl hrm.2.2.1) (Nat.le_trans hsl hrm.2.2.2) hd (fun q1 H1 hP1 hD1 hS1 => ?_)
  · intro i hi
    rw [gcl_df ci _ hq i hi]
    have h2 := gFs_at (ad := va_up ad c 0) (r := fun _ => 0) (q := fun _ => none) (ci := ci) (k := i) (by rw [gNf_of hq]; exact hi)
    show _ = (gFs _ _ _ _).getD i .null
    rw [List.getD_eq_getElem?_getD, h2]
    unfold gFv
    cases gIsR ci i <;> rfl
  · have he : gE K.2.1.2 (va_up ad c q1) (va_up ι c (fun _ => 0)) (va_up ρ c (fun _ => none)) (va_up Λ.2 c 0) c = .inr (ci, gFs (va_up ad c 0) (fun _ => 0) (fun _ => none) ci) := by
      rw [gE_obj hs (gcl_lt hq), va_up_self, va_up_self]; rfl
    rw [gW_push hR.2.2 hc he] at hP1 hD1
    have hE := gExt.new (ad := ad) (Λ := Λ) (q := q1) (n := 0) hc
    have k2 := kk _ _ _ rfl rfl rfl p e R s m args below meth c0 H1 locs ls (va_up ad c q1) Z C ⟨hP1, hD1, gClosed_new hR.2.2⟩ hS1 (hl.ext hE hv1) (fun v hv => (hv1 v hv).ext hE) (List.forall_mem_cons.mpr ⟨gLive.ref (List.mem_append_right _ (List.mem_singleton.mpr rfl)), fun v hv => (hv2 v hv).ext hE⟩) (fun pc' ls' r ι' ρ' Λ' ad' H' locs' hq2 hR2 hE2 => hZ pc' ls' r ι' ρ' Λ' ad' H' locs' hq2 hR2 (hE.tr hE2))
    rw [List.map_cons, gc_map_ext hE hv2] at k2
    rw [show gc (va_up ad c q1) (vR c) = .ref q1 from congrArg Value.ref (va_up_self ad c q1)] at k2
    exact k2
theorem gArr_cls {dA : Nat → ClassId} {G : va_G} {s : State} {cA : ClassId} {ty : FieldType} {t : Nat} (h : va_K G gcl (gTys dA ++ [(cA, ty)]) s) (ht : (gTys dA)[t]? = some (dA t, ty)) : cA = dA t := by
  have hl : t < (gTys dA).length := (List.getElem?_eq_some_iff.mp ht).1
  have h1 := (h.2 t _ (by rw [List.getElem?_append_left hl]; exact ht)).2
  have h2 := (h.2 5 (cA, ty) rfl).2
  cases ty with
  | object C =>
    obtain ⟨_, _, _, _, _, a1⟩ := h1
    obtain ⟨_, _, _, _, _, a2⟩ := h2
    exact Option.some.inj (a2.symm.trans a1)
  | _ => exact Option.some.inj (h2.symm.trans h1)
theorem x_newa {t : Nat} {atype : ArrayType} {n : Int32} (c N : Nat) (hd : decode j.2.1 pc = .ok (.newarray atype, 2)) (hs : shp c = 13 + t) (hty : (t = 0 ∧ newarray.typeOf atype = .int) ∨ (t = 1 ∧ newarray.typeOf atype = .boolean)) (hw : Cond.arrayClass (newarray.typeOf atype) ∈ gT) (hc : c ∉ Λ.1) (hn : ¬ n < 0) (hN : n.toNatClampNeg = N) (hN2 : N ≤ 100000) (hcl : cl + 1 ≤ mc) (hsl : sl + N ≤ ms)
    (kk : ∀ ι' ρ' Λ', ι' = va_up ι c (fun _ => 0) → ρ' = va_up ρ c (fun _ => none) → Λ' = (Λ.1 ++ [c], va_up Λ.2 c N) → gX K B dp mc ms j (pc + 2) lv (vR c :: st) (cl + 1) (sl + N) ι' ρ' Λ' Q) : gX K B dp mc ms j pc lv (vI n :: st) cl sl ι ρ Λ Q := by
  intro p e R s m args below meth c0 H locs ls ad Z C hR hS hl hv1 hv2 hZ
  obtain ⟨hx, hb, hml, hown, hts, hmn, hrm, hA, hKs, hB⟩ := id C
  have hv3 := (List.forall_mem_cons.mp hv2).2
  have hcb : componentBytes (newarray.typeOf atype) ≤ 4 := by rcases hty with ⟨-, h⟩ | ⟨-, h⟩ <;> rw [h] <;> decide
  refine va_newa (atype := atype) (a0 := (N, .inl (fun _ => 0))) hx hb (hts _ hw) rfl hKs.1 hR.1 hR.2.1 hS hA (fun cA => ?_) hn hN (Nat.le_trans (Nat.mul_le_mul hN2 hcb) (by decide)) (Nat.le_trans hcl hrm.2.2.1) (Nat.le_trans hsl hrm.2.2.2) hd (fun q1 cA H1 hK1 hP1 hD1 hS1 => ?_)
  · rw [vp_cell_i]
    rcases hty with ⟨-, h⟩ | ⟨-, h⟩ <;> rw [h] <;> rfl
  · have ht5 : (gTys K.2.1.2)[t]? = some (K.2.1.2 t, newarray.typeOf atype) := by rcases hty with ⟨rfl, h⟩ | ⟨rfl, h⟩ <;> rw [h] <;> rfl
    have hcA := gArr_cls hK1 ht5
    subst hcA
    have he : gE K.2.1.2 (va_up ad c q1) (va_up ι c (fun _ => 0)) (va_up ρ c (fun _ => none)) (va_up Λ.2 c N) c = .inl (K.2.1.2 t, N, .inl (fun _ => 0)) := by
      rw [gE_arr (t := t) hs (by rcases hty with ⟨h, -⟩ | ⟨h, -⟩ <;> omega), va_up_self, va_up_self]
    rw [gW_push hR.2.2 hc he] at hP1 hD1
    have hE := gExt.new (ad := ad) (Λ := Λ) (q := q1) (n := N) hc
    have k2 := kk _ _ _ rfl rfl rfl p e R s m args below meth c0 H1 locs ls (va_up ad c q1) Z C ⟨hP1, hD1, gClosed_new hR.2.2⟩ hS1 (hl.ext hE hv1) (fun v hv => (hv1 v hv).ext hE) (List.forall_mem_cons.mpr ⟨gLive.ref (List.mem_append_right _ (List.mem_singleton.mpr rfl)), fun v hv => (hv3 v hv).ext hE⟩) (fun pc' ls' r ι' ρ' Λ' ad' H' locs' hq2 hR2 hE2 => hZ pc' ls' r ι' ρ' Λ' ad' H' locs' hq2 hR2 (hE.tr hE2))
    rw [List.map_cons, gc_map_ext hE hv3] at k2
    rw [show gc (va_up ad c q1) (vR c) = .ref q1 from congrArg Value.ref (va_up_self ad c q1)] at k2
    exact k2
theorem x_newq {t idx : Nat} {n : Int32} (c N : Nat) (C' : String) (hd : decode j.2.1 pc = .ok (.anewarray idx, 3)) (hs : shp c = 13 + t) (ht : 2 ≤ t ∧ t < 5) (hC : gaty[t]? = some (.object C')) (hC2 : C' ∈ gAo) (hw : Cond.classLink j.1.cls idx C' ∈ gT) (hc : c ∉ Λ.1) (hn : ¬ n < 0) (hN : n.toNatClampNeg = N) (hN2 : N ≤ 100000) (hcl : cl + 1 ≤ mc) (hsl : sl + N ≤ ms)
    (kk : ∀ ι' ρ' Λ', ι' = va_up ι c (fun _ => 0) → ρ' = va_up ρ c (fun _ => none) → Λ' = (Λ.1 ++ [c], va_up Λ.2 c N) → gX K B dp mc ms j (pc + 3) lv (vR c :: st) (cl + 1) (sl + N) ι' ρ' Λ' Q) : gX K B dp mc ms j pc lv (vI n :: st) cl sl ι ρ Λ Q := by
  intro p e R s m args below meth c0 H locs ls ad Z C hR hS hl hv1 hv2 hZ
  obtain ⟨hx, hb, hml, hown, hts, hmn, hrm, hA, hKs, hB⟩ := id C
  have hv3 := (List.forall_mem_cons.mp hv2).2
  refine va_newq (C := C') hx hb hown (hts _ hw) (hKs.2.1 C' hC2) hKs.1 hR.1 hR.2.1 hS hA hn hN (Nat.le_trans (Nat.mul_le_mul_right 4 hN2) (by decide)) (Nat.le_trans hcl hrm.2.2.1) (Nat.le_trans hsl hrm.2.2.2) hd (fun q1 cA H1 hK1 hP1 hD1 hS1 => ?_)
  obtain ⟨C2, h1, h2⟩ := gTys_at (dA := K.2.1.2) ht.1 ht.2
  rw [hC] at h1
  cases h1
  have hcA := gArr_cls hK1 h2
  subst hcA
  have he : gE K.2.1.2 (va_up ad c q1) (va_up ι c (fun _ => 0)) (va_up ρ c (fun _ => none)) (va_up Λ.2 c N) c = .inl (K.2.1.2 t, N, .inr (.inr (.inr (.inr (fun _ => none))))) := by
    rw [gE_ref (t := t) hs ht.1, va_up_self, va_up_self]; rfl
  rw [gW_push hR.2.2 hc he] at hP1 hD1
  have hE := gExt.new (ad := ad) (Λ := Λ) (q := q1) (n := N) hc
  have k2 := kk _ _ _ rfl rfl rfl p e R s m args below meth c0 H1 locs ls (va_up ad c q1) Z C ⟨hP1, hD1, gClosed_new hR.2.2⟩ hS1 (hl.ext hE hv1) (fun v hv => (hv1 v hv).ext hE) (List.forall_mem_cons.mpr ⟨gLive.ref (List.mem_append_right _ (List.mem_singleton.mpr rfl)), fun v hv => (hv3 v hv).ext hE⟩) (fun pc' ls' r ι' ρ' Λ' ad' H' locs' hq2 hR2 hE2 => hZ pc' ls' r ι' ρ' Λ' ad' H' locs' hq2 hR2 (hE.tr hE2))
  rw [List.map_cons, gc_map_ext hE hv3] at k2
  rw [show gc (va_up ad c q1) (vR c) = .ref q1 from congrArg Value.ref (va_up_self ad c q1)] at k2
  exact k2
end NEW
section CALL
variable {K : gK} {B : gB} {dp mc ms : Nat} {j : gJ} {pc : Nat} {lv : List (Option gV)} {st : List gV} {cl sl : Nat} {ι : gIm} {ρ : gRm} {Λ : gLm} {Q : gQ}
theorem gKs_warm {K : gK} {s U : State} (h : gKs K s) (hW : s.WarmedH U.vm) : gKs K U := by
  refine ⟨va_K.moved hW.alike h.1, fun C hC => va_AO.moved hW.alike (h.2.1 C hC), fun q hq => va_Nw.warmM hW (h.2.2 q hq)⟩
theorem gKs_vm {K : gK} {s U : State} (h : gKs K s) (hW : s.vm = U.vm) : gKs K U := by
  refine ⟨va_K.moved (by rw [hW]; exact Vm.Alike.refl _) h.1, fun C hC => va_AO.moved (by rw [hW]; exact Vm.Alike.refl _) (h.2.1 C hC), fun q hq => va_Nw.same rfl hW (h.2.2 q hq)⟩
theorem gPre_blind {K : gK} {ad : Nat → Nat} {ι : gIm} {ρ : gRm} {Λ : gLm} {av : List Value} : FrameBlind (va_Pc av (gPre K ad ι ρ Λ)) := fun a U g mk h => ⟨h.1, gKs_vm h.2.1 rfl, h.2.2.1, h.2.2.2⟩
/-- behind a call -/
theorem gRun {p : Program} {e : Env} {R : Room} {s : State} {m : MethodId} {args : Array Value} {below : List Frame} {meth : Method} {c : Code} {H : Heap} {locs : List Loc} {cells slots mc' ms' : Nat} {Z : State → Prop} {ls : Array Slot} {st0 rest : List Value} {a : Array Value} {ad : Nat → Nat} {Q' : gQ}
    (hr : va_Run p K.1 e R s m args below meth c H locs cells slots mc' ms' (F0 m pc ls st0) rest (gPost K ad Λ Q' a) K.2.2) (hS : va_S K.2.2 s.heap H locs)
    (kk : ∀ (r : Option gV) (ι' : gIm) (ρ' : gRm) (Λ' : gLm) (ad' : Nat → Nat) (H' : Heap) (locs' : List Loc), Q' r ι' ρ' Λ' → gRep K ad' ι' ρ' Λ' H' → gExt ad Λ ad' Λ' → (∀ v, r = some v → gLive Λ' v) → va_S K.2.2 s.heap H' locs' →
      W p K.1 e R s m args below meth c H' locs' (cells + mc') (slots + ms') Z (F0 m (pc + 3) ls (r.toList.map (gc ad') ++ rest))) : W p K.1 e R s m args below meth c H locs cells slots Z (F0 m pc ls st0) := by
  intro T hT X
  obtain ⟨v, st₀, t, T', L, h0, X', hL, e1, e2, ⟨⟨r, ι', ρ', Λ', ad', hv, hq, hR, hE, hlv⟩, hz, hk⟩, stp⟩ := hr T hT X
  have hv2 : v = r.map (gc ad') := Outcome.returned.inj hv
  subst hv2
  rw [h0] at hz hk
  have hS' : va_S K.2.2 s.heap T'.heap (locs ++ L) := ⟨Nat.le_trans hS.1 (by rw [e1]; exact hz), fun q h1 h2 => by rw [e1, hk q (Nat.lt_of_lt_of_le h1 hS.1) h2]; exact hS.2.1 q h1 h2, fun q hq => by
      rcases List.mem_append.mp hq with h | h
      · exact hS.2.2 q h
      · exact hL q h⟩
  obtain ⟨t2, a1, b1⟩ := kk r ι' ρ' Λ' ad' T'.heap (locs ++ L) hq (by rw [e1]; exact hR) hE hlv hS' T' rfl X'
  refine ⟨t2, stp t2 ?_, b1⟩
  have hsl : (r.map (gc ad')).toList = r.toList.map (gc ad') := by cases r <;> rfl
  rw [hsl]
  exact a1
theorem gWs_pay {s U : State} {args a' : Array Value} {j' : gJ} (hts : ∀ w ∈ gT, w.before args s = true) (hco : Cond.code j'.1 j'.2.1 j'.2.2.1 j'.2.2.2 ∈ gT) (hW : s.WarmedH U.vm) : ∀ w ∈ gWs j', w.before a' U = true := by
  intro w hw
  have hg : w ∈ gT := by
    rcases List.mem_cons.mp hw with h | h
    · rw [h]; exact hco
    · exact h
  exact word_at hW (good_of_word (gT_good w hg).2) (hts w hg)
/-- what a call of j' at place idx wants of the tables -/
def gLk (own : String) (idx : Nat) (j' : gJ) (n : Nat) : Prop := Cond.code j'.1 j'.2.1 j'.2.2.1 j'.2.2.2 ∈ gT ∧ Cond.initialized j'.1.cls ∈ gT ∧ (j'.1.cls ≠ "java/lang/invoke/MethodHandle" ∧ j'.1.cls ≠ "java/lang/invoke/VarHandle") ∧ (parseMethodDescriptor j'.1.desc).map (fun d => d.parameters.length) = some n ∧ Cond.methodLink own idx j'.1 ∈ gT
def gLkV (own : String) (idx : Nat) (j' : gJ) (n : Nat) : Prop := gLk own idx j' n ∧ Cond.instanceMethod j'.1 ∈ gT ∧ Cond.selects j'.1.cls j'.1 j'.1 ∈ gT
def gLkS (own : String) (idx : Nat) (j' : gJ) (n : Nat) : Prop := gLk own idx j' n ∧ Cond.static j'.1 ∈ gT
def gLkI (own : String) (idx : Nat) (j' : gJ) (n : Nat) : Prop := gLk own idx j' n ∧ j'.1.name = "<init>" ∧ j'.2.2.2 = none ∧ Cond.instanceMethod j'.1 ∈ gT
def gLkN (own : String) (idx : Nat) (j' : gJ) (n : Nat) : Prop := (Cond.code j'.1 j'.2.1 j'.2.2.1 j'.2.2.2 ∈ gT ∧ Cond.initialized j'.1.cls ∈ gT ∧ (j'.1.cls ≠ "java/lang/invoke/MethodHandle" ∧ j'.1.cls ≠ "java/lang/invoke/VarHandle") ∧ (parseMethodDescriptor j'.1.desc).map (fun d => d.parameters.length) = some n) ∧ (∃ host, (own, idx, j'.1, host) ∈ gNest) ∧ j'.1.name = "<init>" ∧ j'.2.2.2 = none ∧ Cond.instanceMethod j'.1 ∈ gT
theorem gCallB {R : Room} {s : State} {args : Array Value} {own : String} {idx n dp' mc' ms' : Nat} {j' : gJ} (hw : gLk own idx j' n) (hts : ∀ w ∈ gT, w.before args s = true) (hR : dp ≤ R.frames ∧ 64 * dp ≤ R.locals) (hd : dp' + 1 ≤ dp) (hml : j'.2.2.1 ≤ 45) :
    CallB R s args own idx j'.1 j'.2.1 j'.2.2.1 j'.2.2.2 (gWs j') (gRm0 dp' mc' ms') mc' ms' n := by
  refine ⟨rfl, rfl, ?_, ?_, fun w hw2 a' U hW => gWs_pay hts hw.1 hW w hw2, List.mem_cons_self, hts _ hw.1, hts _ hw.2.1, hw.2.2.1, fun sig h => ?_, hts _ hw.2.2.2.2⟩
  · show dp' + 1 ≤ R.frames; omega
  · show 8 + (j'.2.2.1 + 11) + 64 * dp' ≤ R.locals; omega
  · have h2 := hw.2.2.2.1
    rw [h] at h2
    exact (Option.some.inj h2).symm
theorem gRecv {ad : Nat → Nat} {s : State} {H : Heap} {c ci : Nat} {q : vw_C} (hKs : gKs K s) (hR : gRep K ad ι ρ Λ H) (hc : c ∈ Λ.1) (hs : shp c = ci) (hq : gcl[ci]? = some q) : ∃ cell : Cell, H[ad c]? = some cell ∧ cell.vm.isStatics = false ∧ s.vm.findClass q.1 = some cell.cls := by
  obtain ⟨q0, hq0⟩ := gW_get (dA := K.2.1.2) (ad := ad) (ι := ι) (ρ := ρ) hc
  rw [gE_obj hs (gcl_lt hq)] at hq0
  exact va_recv hKs.1 hR.1 hq hq0
/-- a call of an instance method of ours -/
theorem x_callV {idx c ci n dp' mc' ms' : Nat} {j' : gJ} {q : vw_C} {av : List gV} {rest : List gV} {Q' : gQ} (hd : decode j.2.1 pc = .ok (.invokevirtual idx, 3)) (hw : gLkV j.1.cls idx j' n) (hn : av.length = n) (hst : st = av.reverse ++ vR c :: rest) (hs : shp c = ci) (hq : gcl[ci]? = some q) (hcls : j'.1.cls = q.1)
    (hroom : dp' + 1 ≤ dp ∧ j'.2.2.1 ≤ 45 ∧ rest.length ≤ 8) (hcl : cl + mc' ≤ mc) (hsl : sl + ms' ≤ ms) (hC : gC K dp' mc' ms' j' (vR c :: av) ι ρ Λ Q')
    (kk : ∀ r ι' ρ' Λ', Q' r ι' ρ' Λ' → gX K B dp mc ms j (pc + 3) lv (r.toList ++ rest) (cl + mc') (sl + ms') ι' ρ' Λ' Q) : gX K B dp mc ms j pc lv st cl sl ι ρ Λ Q := by
  intro p e R s m args below meth c0 H locs ls ad Z C hR hS hl hv1 hv2 hZ
  obtain ⟨hx, hb, hml, hown, hts, hmn, hrm, hA, hKs, hB⟩ := id C
  subst hst
  have hvr : ∀ v ∈ rest, gLive Λ v := fun v hv => hv2 v (List.mem_append_right _ (List.mem_cons_of_mem _ hv))
  have hvc : gLive Λ (vR c) := hv2 _ (List.mem_append_right _ List.mem_cons_self)
  have hva : ∀ v ∈ vR c :: av, gLive Λ v := List.forall_mem_cons.mpr ⟨hvc, fun v hv => hv2 v (List.mem_append_left _ (List.mem_reverse.mpr hv))⟩
  have hM := hC ad hva
  have hrun := va_runV (g := F0 m pc ls ((av.reverse ++ vR c :: rest).map (gc ad))) (b := ad c) (As := av.map (gc ad)) (rest := rest.map (gc ad)) (locs := locs) (C := j'.1.cls) (own := j.1.cls) (Ts := gT) (p := p) (e := e) (R := R) (s := s) (m := m) (args := args) (below := below) (meth := meth) (c := c0) (H := H) (cells := cl) (slots := sl) (n := n)
    ⟨hx, hb, hml, hown, hts⟩ hM ⟨gCallB hw.1 hts ⟨hrm.1, hrm.2.1⟩ hroom.1 hroom.2.1, hts _ hw.2.1, hts _ hw.2.2⟩
    ⟨gPre_blind, by rw [hcls]; exact gRecv hKs hR (hvc c rfl) hs hq, fun U hU hW => ⟨rfl, gKs_warm hKs hW, by rw [hU]; exact hR, fun q1 h1 => hA q1 (Nat.le_trans hS.1 (by rw [← hU]; exact h1))⟩⟩ rfl (by rw [List.length_map]; exact hn) hl.1 (by simp only [List.map_append, List.map_reverse, List.map_cons]; rfl) (lv_room (by rw [gc_cats]; exact hroom.2.2)) hd ⟨Nat.le_trans hcl hrm.2.2.1, Nat.le_trans hsl hrm.2.2.2⟩
  refine gRun hrun hS fun r ι' ρ' Λ' ad' H' locs' hq' hR' hE' hlv' hS' => ?_
  have k2 := kk r ι' ρ' Λ' hq' p e R s m args below meth c0 H' locs' ls ad' Z C hR' hS' (hl.ext hE' hv1) (fun v hv => (hv1 v hv).ext hE') (fun v hv => ?_) (fun pc' ls' r ι2 ρ2 Λ2 ad2 H2 locs2 hq2 hR2 hE2 => hZ pc' ls' r ι2 ρ2 Λ2 ad2 H2 locs2 hq2 hR2 (hE'.tr hE2))
  · rw [List.map_append, gc_map_ext hE' hvr] at k2
    exact k2
  · rcases List.mem_append.mp hv with h | h
    · exact hlv' v (by cases r with
        | none => cases h
        | some w => rw [List.mem_singleton.mp h])
    · exact (hvr v h).ext hE'
theorem x_callS {idx n dp' mc' ms' : Nat} {j' : gJ} {av : List gV} {rest : List gV} {Q' : gQ} (hd : decode j.2.1 pc = .ok (.invokestatic idx, 3)) (hw : gLkS j.1.cls idx j' n) (hn : av.length = n) (hst : st = av.reverse ++ rest)
    (hroom : dp' + 1 ≤ dp ∧ j'.2.2.1 ≤ 45 ∧ rest.length ≤ 8) (hcl : cl + mc' ≤ mc) (hsl : sl + ms' ≤ ms) (hC : gC K dp' mc' ms' j' av ι ρ Λ Q')
    (kk : ∀ r ι' ρ' Λ', Q' r ι' ρ' Λ' → gX K B dp mc ms j (pc + 3) lv (r.toList ++ rest) (cl + mc') (sl + ms') ι' ρ' Λ' Q) : gX K B dp mc ms j pc lv st cl sl ι ρ Λ Q := by
  intro p e R s m args below meth c0 H locs ls ad Z C hR hS hl hv1 hv2 hZ
  obtain ⟨hx, hb, hml, hown, hts, hmn, hrm, hA, hKs, hB⟩ := id C
  subst hst
  have hvr : ∀ v ∈ rest, gLive Λ v := fun v hv => hv2 v (List.mem_append_right _ hv)
  have hva : ∀ v ∈ av, gLive Λ v := fun v hv => hv2 v (List.mem_append_left _ (List.mem_reverse.mpr hv))
  have hM := hC ad hva
  have hrun := va_runS (g := F0 m pc ls ((av.reverse ++ rest).map (gc ad))) (As := av.map (gc ad)) (rest := rest.map (gc ad)) (locs := locs) (own := j.1.cls) (Ts := gT) (p := p) (e := e) (R := R) (s := s) (m := m) (args := args) (below := below) (meth := meth) (c := c0) (H := H) (cells := cl) (slots := sl) (n := n)
    ⟨hx, hb, hml, hown, hts⟩ hM ⟨gCallB hw.1 hts ⟨hrm.1, hrm.2.1⟩ hroom.1 hroom.2.1, hts _ hw.2⟩
    ⟨gPre_blind, fun U hU hW => ⟨rfl, gKs_warm hKs hW, by rw [hU]; exact hR, fun q1 h1 => hA q1 (Nat.le_trans hS.1 (by rw [← hU]; exact h1))⟩⟩ rfl (by rw [List.length_map]; exact hn) hl.1 (by simp only [List.map_append, List.map_reverse]) (lv_room (by rw [gc_cats]; exact hroom.2.2)) hd ⟨Nat.le_trans hcl hrm.2.2.1, Nat.le_trans hsl hrm.2.2.2⟩
  refine gRun hrun hS fun r ι' ρ' Λ' ad' H' locs' hq' hR' hE' hlv' hS' => ?_
  have k2 := kk r ι' ρ' Λ' hq' p e R s m args below meth c0 H' locs' ls ad' Z C hR' hS' (hl.ext hE' hv1) (fun v hv => (hv1 v hv).ext hE') (fun v hv => ?_) (fun pc' ls' r ι2 ρ2 Λ2 ad2 H2 locs2 hq2 hR2 hE2 => hZ pc' ls' r ι2 ρ2 Λ2 ad2 H2 locs2 hq2 hR2 (hE'.tr hE2))
  · rw [List.map_append, gc_map_ext hE' hvr] at k2
    exact k2
  · rcases List.mem_append.mp hv with h | h
    · exact hlv' v (by cases r with
        | none => cases h
        | some w => rw [List.mem_singleton.mp h])
    · exact (hvr v h).ext hE'
theorem x_callI {idx c n dp' mc' ms' : Nat} {j' : gJ} {av : List gV} {rest : List gV} {Q' : gQ} (hd : decode j.2.1 pc = .ok (.invokespecial idx, 3)) (hw : gLkI j.1.cls idx j' n) (hn : av.length = n) (hst : st = av.reverse ++ vR c :: rest)
    (hroom : dp' + 1 ≤ dp ∧ j'.2.2.1 ≤ 45 ∧ rest.length ≤ 8) (hcl : cl + mc' ≤ mc) (hsl : sl + ms' ≤ ms) (hC : gC K dp' mc' ms' j' (vR c :: av) ι ρ Λ Q')
    (kk : ∀ r ι' ρ' Λ', Q' r ι' ρ' Λ' → gX K B dp mc ms j (pc + 3) lv (r.toList ++ rest) (cl + mc') (sl + ms') ι' ρ' Λ' Q) : gX K B dp mc ms j pc lv st cl sl ι ρ Λ Q := by
  intro p e R s m args below meth c0 H locs ls ad Z C hR hS hl hv1 hv2 hZ
  obtain ⟨hx, hb, hml, hown, hts, hmn, hrm, hA, hKs, hB⟩ := id C
  subst hst
  have hvr : ∀ v ∈ rest, gLive Λ v := fun v hv => hv2 v (List.mem_append_right _ (List.mem_cons_of_mem _ hv))
  have hvc : gLive Λ (vR c) := hv2 _ (List.mem_append_right _ List.mem_cons_self)
  have hva : ∀ v ∈ vR c :: av, gLive Λ v := List.forall_mem_cons.mpr ⟨hvc, fun v hv => hv2 v (List.mem_append_left _ (List.mem_reverse.mpr hv))⟩
  have hM := hC ad hva
  have hcb := gCallB (R := R) (s := s) (args := args) (dp' := dp') (mc' := mc') (ms' := ms') hw.1 hts ⟨hrm.1, hrm.2.1⟩ hroom.1 hroom.2.1
  rw [hw.2.2.1] at hcb
  have hrun := va_runI (g := F0 m pc ls ((av.reverse ++ vR c :: rest).map (gc ad))) (b := ad c) (As := av.map (gc ad)) (rest := rest.map (gc ad)) (locs := locs) (own := j.1.cls) (Ts := gT) (p := p) (e := e) (R := R) (s := s) (m := m) (args := args) (below := below) (meth := meth) (c := c0) (H := H) (cells := cl) (slots := sl) (n := n)
    ⟨hx, hb, hml, hown, hts⟩ hM ⟨hcb, hw.2.1, hts _ hw.2.2.2⟩
    ⟨gPre_blind, fun U hU hW => ⟨rfl, gKs_warm hKs hW, by rw [hU]; exact hR, fun q1 h1 => hA q1 (Nat.le_trans hS.1 (by rw [← hU]; exact h1))⟩⟩ rfl (by rw [List.length_map]; exact hn) hl.1 (by simp only [List.map_append, List.map_reverse, List.map_cons]; rfl) (lv_room (by rw [gc_cats]; exact hroom.2.2)) hd ⟨Nat.le_trans hcl hrm.2.2.1, Nat.le_trans hsl hrm.2.2.2⟩
  refine gRun hrun hS fun r ι' ρ' Λ' ad' H' locs' hq' hR' hE' hlv' hS' => ?_
  have k2 := kk r ι' ρ' Λ' hq' p e R s m args below meth c0 H' locs' ls ad' Z C hR' hS' (hl.ext hE' hv1) (fun v hv => (hv1 v hv).ext hE') (fun v hv => ?_) (fun pc' ls' r ι2 ρ2 Λ2 ad2 H2 locs2 hq2 hR2 hE2 => hZ pc' ls' r ι2 ρ2 Λ2 ad2 H2 locs2 hq2 hR2 (hE'.tr hE2))
  · rw [List.map_append, gc_map_ext hE' hvr] at k2
    exact k2
  · rcases List.mem_append.mp hv with h | h
    · exact hlv' v (by cases r with
        | none => cases h
        | some w => rw [List.mem_singleton.mp h])
    · exact (hvr v h).ext hE'
/-- a private constructor of a nest mate -/
theorem x_callN {idx c n dp' mc' ms' : Nat} {j' : gJ} {av : List gV} {rest : List gV} {Q' : gQ} (hd : decode j.2.1 pc = .ok (.invokespecial idx, 3)) (hw : gLkN j.1.cls idx j' n) (hn : av.length = n) (hst : st = av.reverse ++ vR c :: rest)
    (hroom : dp' + 1 ≤ dp ∧ j'.2.2.1 ≤ 45 ∧ rest.length ≤ 8) (hcl : cl + mc' ≤ mc) (hsl : sl + ms' ≤ ms) (hC : gC K dp' mc' ms' j' (vR c :: av) ι ρ Λ Q')
    (kk : ∀ r ι' ρ' Λ', Q' r ι' ρ' Λ' → gX K B dp mc ms j (pc + 3) lv (r.toList ++ rest) (cl + mc') (sl + ms') ι' ρ' Λ' Q) : gX K B dp mc ms j pc lv st cl sl ι ρ Λ Q := by
  intro p e R s m args below meth c0 H locs ls ad Z C hR hS hl hv1 hv2 hZ
  obtain ⟨hx, hb, hml, hown, hts, hmn, hrm, hA, hKs, hB⟩ := id C
  subst hst
  have hvr : ∀ v ∈ rest, gLive Λ v := fun v hv => hv2 v (List.mem_append_right _ (List.mem_cons_of_mem _ hv))
  have hvc : gLive Λ (vR c) := hv2 _ (List.mem_append_right _ List.mem_cons_self)
  have hva : ∀ v ∈ vR c :: av, gLive Λ v := List.forall_mem_cons.mpr ⟨hvc, fun v hv => hv2 v (List.mem_append_left _ (List.mem_reverse.mpr hv))⟩
  have hM := hC ad hva
  obtain ⟨⟨w1, w2, w3, w4⟩, ⟨host, w5⟩, w6, w7, w8⟩ := hw
  have hcb : va_CN R s args j.1.cls idx j'.1 host j'.2.1 j'.2.2.1 j'.2.2.2 (gWs j') (gRm0 dp' mc' ms') mc' ms' n := by
    refine ⟨⟨rfl, rfl, ?_, ?_, fun w hw2 a' U hW => gWs_pay hts w1 hW w hw2, List.mem_cons_self⟩, hts _ w1, hts _ w2, w3, fun sig h => ?_, va_Nw.use rfl (hKs.2.2 _ w5)⟩
    · show dp' + 1 ≤ R.frames; omega
    · show 8 + (j'.2.2.1 + 11) + 64 * dp' ≤ R.locals; omega
    · rw [h] at w4
      exact (Option.some.inj w4).symm
  rw [w7] at hcb
  have hrun := va_runIN (g := F0 m pc ls ((av.reverse ++ vR c :: rest).map (gc ad))) (b := ad c) (As := av.map (gc ad)) (rest := rest.map (gc ad)) (locs := locs) (own := j.1.cls) (Ts := gT) (p := p) (e := e) (R := R) (s := s) (m := m) (args := args) (below := below) (meth := meth) (c := c0) (H := H) (cells := cl) (slots := sl) (n := n)
    ⟨hx, hb, hml, hown, hts⟩ hM ⟨hcb, w6, hts _ w8⟩
    ⟨gPre_blind, fun U hU hW => ⟨rfl, gKs_warm hKs hW, by rw [hU]; exact hR, fun q1 h1 => hA q1 (Nat.le_trans hS.1 (by rw [← hU]; exact h1))⟩⟩ rfl (by rw [List.length_map]; exact hn) hl.1 (by simp only [List.map_append, List.map_reverse, List.map_cons]; rfl) (lv_room (by rw [gc_cats]; exact hroom.2.2)) hd ⟨Nat.le_trans hcl hrm.2.2.1, Nat.le_trans hsl hrm.2.2.2⟩
  refine gRun hrun hS fun r ι' ρ' Λ' ad' H' locs' hq' hR' hE' hlv' hS' => ?_
  have k2 := kk r ι' ρ' Λ' hq' p e R s m args below meth c0 H' locs' ls ad' Z C hR' hS' (hl.ext hE' hv1) (fun v hv => (hv1 v hv).ext hE') (fun v hv => ?_) (fun pc' ls' r ι2 ρ2 Λ2 ad2 H2 locs2 hq2 hR2 hE2 => hZ pc' ls' r ι2 ρ2 Λ2 ad2 H2 locs2 hq2 hR2 (hE'.tr hE2))
  · rw [List.map_append, gc_map_ext hE' hvr] at k2
    exact k2
  · rcases List.mem_append.mp hv with h | h
    · exact hlv' v (by cases r with
        | none => cases h
        | some w => rw [List.mem_singleton.mp h])
    · exact (hvr v h).ext hE'
theorem x_objInit {idx : Nat} {c : Nat} (hd : decode j.2.1 pc = .ok (.invokespecial idx, 3)) (hw : Cond.methodLink j.1.cls idx objectInit ∈ gT) (hw2 : Cond.instanceMethod objectInit ∈ gT) (hw3 : Cond.code objectInit ⟨#[0xb1]⟩ 1 none ∈ gT) (hdp : 1 ≤ dp) (hst : st.length ≤ 8)
    (kk : gX K B dp mc ms j (pc + 3) lv st cl sl ι ρ Λ Q) : gX K B dp mc ms j pc lv (vR c :: st) cl sl ι ρ Λ Q := by
  intro p e R s m args below meth c0 H locs ls ad Z C hR hS hl hv1 hv2 hZ
  obtain ⟨hx, hb, hml, hown, hts, hmn, hrm, hA, hKs, hB⟩ := id C
  have h2 := (List.forall_mem_cons.mp hv2).2
  refine W.objInit (rest := st.map (gc ad)) hx hb hown (hts _ hw) (hts _ hw2) (hts _ hw3) rfl (by rw [hml]; exact hl.1) rfl hd (Nat.le_trans hdp hrm.1) ?_ ?_
  · have h3 := lv_room (m := m) (pc := pc) (ls := ls) (rest := (vR c :: st).map (gc ad)) (st := st.map (gc ad)) (by rw [gc_cats]; exact hst)
    have h4 := hrm.2.1
    omega
  · exact kk p e R s m args below meth c0 H locs ls ad Z C hR hS hl hv1 h2 hZ
/-- a method's locals at its entry -/
def gEnt (n : Nat) (av : List gV) : List (Option gV) := av.map some ++ List.replicate (n - av.length) none
theorem lv_args_gc (ad : Nat → Nat) : ∀ (av : List gV) (n : Nat), lv_args n (av.map (gc ad)) = (List.range' n av.length).zip (av.map (gc ad))
  | [], n => by simp [lv_args]
  | v :: t, n => by
    have h := lv_args_gc ad t (n + 1)
    simp only [List.map_cons, List.length_cons, List.range'_succ, List.zip_cons_cons]
    rw [← h]
    simp [lv_args, gc_cat]
theorem lg_sl_gc (ad : Nat → Nat) : ∀ (av : List gV), (lg_sl (av.map (gc ad))).length = av.length
  | [] => rfl
  | v :: t => by
    have h := lg_sl_gc ad t
    simp only [lg_sl, List.map_cons, List.flatMap_cons, List.length_append, List.length_cons] at h ⊢
    rw [h, gc_cat]
    simp only [Nat.reduceEqDiff, if_false, List.length_cons, List.length_nil]
    omega
/-- a contract out of a walk, for a method that no entry of the machine's own stands for -/
theorem gMet {y : MethodName} {ws ws' : List Cond} {rm : Room} {Pc : Array Value → State → Prop} {Qc : Array Value → State → Outcome → State → Prop} {mc ms : Nat} {free : Addr → Prop} {cc : ByteArray} {maxL : Nat} {ret : Option FieldType} {l : Launch}
    (hy : plainFor y = true) (hw : ws = Cond.code y cc maxL ret :: ws')
    (body : ∀ p e s m args below meth c s₁, BodyLoose p l y (headSpec ws rm) cc maxL ret e s m args below meth c s₁ → c.maxLocals = maxL → Pc args s →
      W p l e (headSpec ws rm).room s m args below meth c s.heap [] 0 0 (MQ below Qc args s mc ms free) (entryFrame m args maxL)) : Met l y ws rm Pc Qc mc ms free := by
  refine MetFree.of_bodySF (code := cc) (maxLocals := maxL) (ret := ret) hy ?_ ?_
  · intro args s m h hn
    obtain ⟨meth, c, h1, h2, h3, h4, h5, h6, -, -⟩ := Cond.code_spec hn (atoms_spec (ws := ws) h _ (by rw [hw]; exact List.mem_cons_self))
    exact ⟨meth, c, h1, h2, h3, h4, h5, h6⟩
  · intro p e s m args below meth c s₁ B hml hP _
    have hh0 : s₁.heap = s.heap := by rw [B.state]; rfl
    obtain ⟨t, a1, o, b1, b2, b3⟩ := body p e s m args below meth c s₁ B hml hP s₁ hh0 (Stand.of_body B)
    exact ⟨t, o, a1, b1, b2, ⟨b3.1, b3.2⟩⟩
theorem gC_of {av : List gV} (hj : plainFor j.1 = true) (hn : av.length ≤ j.2.2.1) (body : gX K none dp mc ms j 0 (gEnt j.2.2.1 av) [] 0 0 ι ρ Λ Q) : gC K dp mc ms j av ι ρ Λ Q := by
  intro ad hlv
  refine gMet (cc := j.2.1) (maxL := j.2.2.1) (ret := j.2.2.2) hj rfl ?_
  intro p e s m args below meth c s₁ Bd hml hv
  obtain ⟨rfl, hKs, hR, hA⟩ := hv
  have hx := Bd.exec
  have hb := Bd.bytes
  have hr := Bd.returns
  have hts : ∀ w ∈ gWs j, w.before (av.map (gc ad)).toArray s = true := atoms_spec (ws := gWs j) Bd.pre
  have hown : s.vm.findClass j.1.cls = some m.cls := findClass_of_methodNamed Bd.named
  have hlocks := Bd.notSynchronized
  have hmn : meth.name = j.1.name := (name_of_methodNamed Bd.named Bd.method).1
  have hl := lv_entry (av.map (gc ad)) (n := j.2.2.1) (by rw [lg_sl_gc]; exact hn)
  rw [lg_entry_eq]
  generalize (lg_sl (av.map (gc ad)) ++ List.replicate (j.2.2.1 - (lg_sl (av.map (gc ad))).length) Slot.unset).toArray = ls at hl ⊢
  refine body p e _ s m _ below meth c s.heap [] ls ad _ ⟨hx, hb, hml, hown, fun w hw => hts w (List.mem_cons_of_mem _ hw), hmn, ⟨Nat.le_refl _, Nat.le_refl _, Nat.le_refl _, Nat.le_refl _⟩, hA, hKs, trivial⟩ hR va_S.rf (gHas.of hl fun i v hi => ?_) (fun v hv => ?_) (fun v hv => by cases hv) ?_
  · unfold gEnt at hi
    by_cases h : i < av.length
    · rw [List.getElem?_append_left (by rw [List.length_map]; exact h), List.getElem?_map] at hi
      obtain ⟨w, hw, hw2⟩ := Option.map_eq_some_iff.mp hi
      injection hw2 with hw2
      subst hw2
      rw [lv_args_gc]
      refine List.mem_of_getElem? (i := i) ?_
      rw [List.getElem?_zip_eq_some]
      exact ⟨by simp [h], by rw [List.getElem?_map, hw]; rfl⟩
    · rw [List.getElem?_append_right (by rw [List.length_map]; omega), List.getElem?_replicate] at hi
      split at hi <;> cases hi
  · unfold gEnt at hv
    rcases List.mem_append.mp hv with h | h
    · obtain ⟨w, hw, hw2⟩ := List.mem_map.mp h
      cases hw2
      exact hlv _ hw
    · cases (List.mem_replicate.mp h).2
  · intro pc' ls' r ι' ρ' Λ' ad' H' locs' hq' hR' hE' hlv' hS' hend
    cases r with
    | none =>
      exact W.vret hx hb (hr.trans hend.2) (fun t ht hW => ⟨⟨none, ι', ρ', Λ', ad', rfl, hq', by rw [ht]; exact hR', hE', hlv'⟩, hS'.F ht⟩) hS'.2.2 hend.1 hlocks
    | some v =>
      rcases v with x | o
      · obtain ⟨hend, h | ⟨h, h01⟩⟩ := hend
        · exact W.iret (v := x) hx hb (hr.trans h) (fun t ht hW => ⟨⟨some (vI x), ι', ρ', Λ', ad', rfl, hq', by rw [ht]; exact hR', hE', hlv'⟩, hS'.F ht⟩) hS'.2.2 hend hlocks
        · exact W.zret (v := x) (ty := .boolean) hx hb (hr.trans h) (by rcases h01 with rfl | rfl <;> rfl) (fun t ht hW => ⟨⟨some (vI x), ι', ρ', Λ', ad', rfl, hq', by rw [ht]; exact hR', hE', hlv'⟩, hS'.F ht⟩) hS'.2.2 hend hlocks
      · obtain ⟨hend, rt, h1, h2⟩ := hend
        refine W.aret (v := gc ad' (Sum.inr o)) (rt := rt) hx hb (hr.trans h1) h2 ?_ (fun t ht hW => ⟨⟨some (Sum.inr o), ι', ρ', Λ', ad', rfl, hq', by rw [ht]; exact hR', hE', hlv'⟩, hS'.F ht⟩) hS'.2.2 hend hlocks
        rcases o with (_ | a) | b
        · exact Or.inl rfl
        · exact Or.inr ⟨_, rfl⟩
        · exact Or.inr ⟨_, rfl⟩
/-- calls by contracts that say all -/
theorem x_Ve {idx c ci n dp' mc' ms' : Nat} {j' : gJ} {q : vw_C} {av : List gV} {rest st' : List gV} {r : Option gV} {ι' : gIm} {ρ' : gRm} {Λ' : gLm} (cl' sl' : Nat) (hd : decode j.2.1 pc = .ok (.invokevirtual idx, 3)) (hw : gLkV j.1.cls idx j' n) (hn : av.length = n) (hst : st = av.reverse ++ vR c :: rest) (hs : shp c = ci) (hq : gcl[ci]? = some q) (hcls : j'.1.cls = q.1)
    (hroom : dp' + 1 ≤ dp ∧ j'.2.2.1 ≤ 45 ∧ rest.length ≤ 8) (hcl : cl + mc' = cl' ∧ cl' ≤ mc) (hsl : sl + ms' = sl' ∧ sl' ≤ ms) (hC : gCe K dp' mc' ms' j' (vR c :: av) ι ρ Λ r ι' ρ' Λ') (hst' : r.toList ++ rest = st')
    (kk : gX K B dp mc ms j (pc + 3) lv st' cl' sl' ι' ρ' Λ' Q) : gX K B dp mc ms j pc lv st cl sl ι ρ Λ Q := by
  obtain ⟨rfl, hcl⟩ := hcl
  obtain ⟨rfl, hsl⟩ := hsl
  subst hst'
  refine x_callV hd hw hn hst hs hq hcls hroom hcl hsl hC (fun r2 a b c2 h => ?_)
  obtain ⟨rfl, rfl, rfl, rfl⟩ := h
  exact kk
theorem x_Se {idx n dp' mc' ms' : Nat} {j' : gJ} {av : List gV} {rest st' : List gV} {r : Option gV} {ι' : gIm} {ρ' : gRm} {Λ' : gLm} (cl' sl' : Nat) (hd : decode j.2.1 pc = .ok (.invokestatic idx, 3)) (hw : gLkS j.1.cls idx j' n) (hn : av.length = n) (hst : st = av.reverse ++ rest)
    (hroom : dp' + 1 ≤ dp ∧ j'.2.2.1 ≤ 45 ∧ rest.length ≤ 8) (hcl : cl + mc' = cl' ∧ cl' ≤ mc) (hsl : sl + ms' = sl' ∧ sl' ≤ ms) (hC : gCe K dp' mc' ms' j' av ι ρ Λ r ι' ρ' Λ') (hst' : r.toList ++ rest = st')
    (kk : gX K B dp mc ms j (pc + 3) lv st' cl' sl' ι' ρ' Λ' Q) : gX K B dp mc ms j pc lv st cl sl ι ρ Λ Q := by
  obtain ⟨rfl, hcl⟩ := hcl
  obtain ⟨rfl, hsl⟩ := hsl
  subst hst'
  refine x_callS hd hw hn hst hroom hcl hsl hC (fun r2 a b c2 h => ?_)
  obtain ⟨rfl, rfl, rfl, rfl⟩ := h
  exact kk
/-- the memory gets a new name -/
theorem x_nmι {ι' : gIm} (k : ∀ z, z = ι' → gX K B dp mc ms j pc lv st cl sl z ρ Λ Q) : gX K B dp mc ms j pc lv st cl sl ι' ρ Λ Q := k ι' rfl
/-- System.arraycopy of ints -/
theorem x_copy {idx a b : Nat} {sp dpo n : Int32} (hd : decode j.2.1 pc = .ok (.invokestatic idx, 3)) (hw : Cond.methodLink j.1.cls idx arraycopyName ∈ gT) (hw2 : Cond.native arraycopyName ∈ gT) (hw3 : Cond.static arraycopyName ∈ gT) (hw4 : Cond.initialized "java/lang/System" ∈ gT) (ha : shp a = 13) (hb0 : shp b = 13) (h1 : ¬ sp < 0) (h2 : ¬ dpo < 0) (h3 : ¬ n < 0) (h4 : sp.toNatClampNeg + n.toNatClampNeg ≤ Λ.2 a) (h5 : dpo.toNatClampNeg + n.toNatClampNeg ≤ Λ.2 b) (hdp : 1 ≤ dp) (hst : st.length ≤ 8)
    (kk : ∀ ι', ι' = va_up ι b (va_cpy (ι a) (ι b) sp.toNatClampNeg dpo.toNatClampNeg n.toNatClampNeg) → gX K B dp mc ms j (pc + 3) lv st cl sl ι' ρ Λ Q) : gX K B dp mc ms j pc lv (vI n :: vI dpo :: vR b :: vI sp :: vR a :: st) cl sl ι ρ Λ Q := by
  intro p e R s m args below meth c0 H locs ls ad Z C hR hS hl hv1 hv2 hZ
  obtain ⟨hx, hb, hml, hown, hts, hmn, hrm, hA, hKs, hB⟩ := id C
  obtain ⟨hin, hv3⟩ := List.forall_mem_cons.mp (List.forall_mem_cons.mp (List.forall_mem_cons.mp hv2).2).2
  obtain ⟨hin2, hv4⟩ := List.forall_mem_cons.mp (List.forall_mem_cons.mp hv3).2
  obtain ⟨q0, hq0⟩ := gW_get (dA := K.2.1.2) (ad := ad) (ι := ι) (ρ := ρ) (hin2 a rfl)
  obtain ⟨q1, hq1⟩ := gW_get (dA := K.2.1.2) (ad := ad) (ι := ι) (ρ := ρ) (hin b rfl)
  have hq2 := hq1
  rw [gE_arr (t := 0) ha (by omega)] at hq0
  rw [gE_arr (t := 0) hb0 (by omega)] at hq1
  have hE : gE K.2.1.2 ad (va_up ι b (va_cpy (ι a) (ι b) sp.toNatClampNeg dpo.toNatClampNeg n.toNatClampNeg)) ρ Λ.2 b = .inl (K.2.1.2 0, Λ.2 b, .inl (va_cpy (ι a) (ι b) sp.toNatClampNeg dpo.toNatClampNeg n.toNatClampNeg)) := by
    rw [gE_arr (t := 0) hb0 (by omega), va_up_self]
  have hW := gW_set hR.2.1 (hin b rfl) hq2 hE (fun d hd2 => gE_same (va_up_ne _ _ hd2) rfl)
  refine va_copyi hx hb (hml.trans hl.1.symm) hown (hts _ hw) (hts _ hw2) (hts _ hw3) (hts _ hw4) hKs.1 hR.1 hR.2.1 hS q0 q1 0 0 hq0 hq1 rfl rfl rfl h1 h2 h3 h4 h5 (fun i hi => rfl) (Nat.le_trans hdp hrm.1) ?_ hd (fun H1 locs1 hP1 hD1 hS1 => ?_)
  · rw [gc_cats]
    have h6 := hrm.2.1
    have h7 : nativeFrameWords "java/lang/System" "arraycopy" 5 + 11 ≤ 56 := by decide
    omega
  · rw [hW] at hP1 hD1
    exact kk _ rfl p e R s m args below meth c0 H1 locs1 ls ad Z C ⟨hP1, hD1, hR.2.2⟩ hS1 hl hv1 hv4 hZ
end CALL
