/-! arrays -/
section ARR
variable {K : gK} {B : gB} {dp mc ms : Nat} {j : gJ} {pc : Nat} {lv : List (Option gV)} {st : List gV} {cl sl : Nat} {ι : gIm} {ρ : gRm} {Λ : gLm} {Q : gQ}
/-- an index within -/
def gIn (i : Int32) (n : Nat) : Prop := ¬ i < 0 ∧ i.toNatClampNeg < n
theorem gIn.vp {i : Int32} {n : Nat} (h : gIn i n) : vp_in i n := fun q => q.elim h.1 (fun q => by have := h.2; omega)
theorem x_iald {c : Nat} {i v : Int32} (n : Nat) (hn : i.toNatClampNeg = n) (hd : decode j.2.1 pc = .ok (.iaload, 1)) (hs : shp c = 13) (hi : gIn i (Λ.2 c)) (hv : ι c n = v) (kk : gX K B dp mc ms j (pc + 1) lv (vI v :: st) cl sl ι ρ Λ Q) : gX K B dp mc ms j pc lv (vI i :: vR c :: st) cl sl ι ρ Λ Q := by
  intro p e R s m args below meth c0 H locs ls ad Z C hR hS hl hv1 hv2 hZ
  subst hn
  subst hv
  obtain ⟨hx, hb, hml, hown, hts, hmn, hrm, hA, hKs, hB⟩ := id C
  obtain ⟨hin, h2⟩ := List.forall_mem_cons.mp (List.forall_mem_cons.mp hv2).2
  obtain ⟨q0, hq0⟩ := gW_get (dA := K.2.1.2) (ad := ad) (ι := ι) (ρ := ρ) (hin c rfl)
  rw [gE_arr (t := 0) hs (by omega)] at hq0
  refine va_iald hx hb hKs.1 hR.1 q0 0 hq0 rfl hi.vp hd ?_
  exact kk p e R s m args below meth c0 H locs ls ad Z C hR hS hl hv1 (List.forall_mem_cons.mpr ⟨gLive.int, h2⟩) hZ
theorem x_zald {c : Nat} {i v : Int32} (n : Nat) (hn : i.toNatClampNeg = n) (hd : decode j.2.1 pc = .ok (.baload, 1)) (hs : shp c = 14) (hi : gIn i (Λ.2 c)) (hv : ι c n = v) (kk : gX K B dp mc ms j (pc + 1) lv (vI v :: st) cl sl ι ρ Λ Q) : gX K B dp mc ms j pc lv (vI i :: vR c :: st) cl sl ι ρ Λ Q := by
  intro p e R s m args below meth c0 H locs ls ad Z C hR hS hl hv1 hv2 hZ
  subst hn
  subst hv
  obtain ⟨hx, hb, hml, hown, hts, hmn, hrm, hA, hKs, hB⟩ := id C
  obtain ⟨hin, h2⟩ := List.forall_mem_cons.mp (List.forall_mem_cons.mp hv2).2
  obtain ⟨q0, hq0⟩ := gW_get (dA := K.2.1.2) (ad := ad) (ι := ι) (ρ := ρ) (hin c rfl)
  rw [gE_arr (t := 1) hs (by omega)] at hq0
  refine va_zald hx hb hKs.1 hR.1 q0 1 hq0 rfl hi.vp hd ?_
  exact kk p e R s m args below meth c0 H locs ls ad Z C hR hS hl hv1 (List.forall_mem_cons.mpr ⟨gLive.int, h2⟩) hZ
theorem upd_va {f : Nat → Int32} {k : Nat} {x : Int32} : upd f k x = va_up f k x := rfl
theorem x_iast {c : Nat} {i v : Int32} (n : Nat) (hn : i.toNatClampNeg = n) (hd : decode j.2.1 pc = .ok (.iastore, 1)) (hs : shp c = 13) (hi : gIn i (Λ.2 c)) (kk : ∀ ι', ι' = up2 ι c n v → gX K B dp mc ms j (pc + 1) lv st cl sl ι' ρ Λ Q) : gX K B dp mc ms j pc lv (vI v :: vI i :: vR c :: st) cl sl ι ρ Λ Q := by
  intro p e R s m args below meth c0 H locs ls ad Z C hR hS hl hv1 hv2 hZ
  subst hn
  obtain ⟨hx, hb, hml, hown, hts, hmn, hrm, hA, hKs, hB⟩ := id C
  obtain ⟨hin, h2⟩ := List.forall_mem_cons.mp (List.forall_mem_cons.mp (List.forall_mem_cons.mp hv2).2).2
  obtain ⟨q0, hq0⟩ := gW_get (dA := K.2.1.2) (ad := ad) (ι := ι) (ρ := ρ) (hin c rfl)
  have hq1 := hq0
  rw [gE_arr (t := 0) hs (by omega)] at hq0
  have hE : gE K.2.1.2 ad (up2 ι c i.toNatClampNeg v) ρ Λ.2 c = .inl (K.2.1.2 0, Λ.2 c, .inl (upd (ι c) i.toNatClampNeg v)) := by
    rw [gE_arr (t := 0) hs (by omega), up2_row]; rfl
  have hW := gW_set hR.2.1 (hin c rfl) hq1 hE (fun d hd2 => gE_same (up2_ne ι _ v hd2) rfl)
  refine va_iast hx hb hKs.1 hR.1 hR.2.1 hS q0 0 hq0 rfl hi.vp hd (fun H1 locs1 hP1 hD1 hS1 => ?_)
  rw [hW] at hP1 hD1
  exact kk _ rfl p e R s m args below meth c0 H1 locs1 ls ad Z C ⟨hP1, hD1, hR.2.2⟩ hS1 hl hv1 h2 hZ
theorem x_zast {c : Nat} {i v : Int32} (n : Nat) (hn : i.toNatClampNeg = n) (hd : decode j.2.1 pc = .ok (.bastore, 1)) (hs : shp c = 14) (hi : gIn i (Λ.2 c)) (hv : v = 0 ∨ v = 1) (kk : ∀ ι', ι' = up2 ι c n v → gX K B dp mc ms j (pc + 1) lv st cl sl ι' ρ Λ Q) : gX K B dp mc ms j pc lv (vI v :: vI i :: vR c :: st) cl sl ι ρ Λ Q := by
  intro p e R s m args below meth c0 H locs ls ad Z C hR hS hl hv1 hv2 hZ
  subst hn
  obtain ⟨hx, hb, hml, hown, hts, hmn, hrm, hA, hKs, hB⟩ := id C
  obtain ⟨hin, h2⟩ := List.forall_mem_cons.mp (List.forall_mem_cons.mp (List.forall_mem_cons.mp hv2).2).2
  obtain ⟨q0, hq0⟩ := gW_get (dA := K.2.1.2) (ad := ad) (ι := ι) (ρ := ρ) (hin c rfl)
  have hq1 := hq0
  rw [gE_arr (t := 1) hs (by omega)] at hq0
  have hn : vp_nar .boolean v = v := by rcases hv with rfl | rfl <;> rfl
  have hE : gE K.2.1.2 ad (up2 ι c i.toNatClampNeg v) ρ Λ.2 c = .inl (K.2.1.2 1, Λ.2 c, .inl (upd (ι c) i.toNatClampNeg (vp_nar .boolean v))) := by
    rw [gE_arr (t := 1) hs (by omega), up2_row, hn]; rfl
  have hW := gW_set hR.2.1 (hin c rfl) hq1 hE (fun d hd2 => gE_same (up2_ne ι _ v hd2) rfl)
  refine va_zast hx hb hKs.1 hR.1 hR.2.1 hS q0 1 hq0 rfl hi.vp hd (fun H1 locs1 hP1 hD1 hS1 => ?_)
  rw [hW] at hP1 hD1
  exact kk _ rfl p e R s m args below meth c0 H1 locs1 ls ad Z C ⟨hP1, hD1, hR.2.2⟩ hS1 hl hv1 h2 hZ
theorem gTys_at {dA : Nat → ClassId} {t : Nat} (h : 2 ≤ t) (h2 : t < 5) : ∃ C, gaty[t]? = some (.object C) ∧ (gTys dA)[t]? = some (dA t, .object C) := by
  rcases (show t = 2 ∨ t = 3 ∨ t = 4 by omega) with rfl | rfl | rfl <;> exact ⟨_, rfl, rfl⟩
theorem x_aald {c t : Nat} {i : Int32} (n : Nat) (o : Option Nat) (hn : i.toNatClampNeg = n) (hd : decode j.2.1 pc = .ok (.aaload, 1)) (hs : shp c = 13 + t) (ht : 2 ≤ t ∧ t < 5) (hi : gIn i (Λ.2 c)) (ho : ρ c n = o) (kk : gX K B dp mc ms j (pc + 1) lv (vO o :: st) cl sl ι ρ Λ Q) : gX K B dp mc ms j pc lv (vI i :: vR c :: st) cl sl ι ρ Λ Q := by
  intro p e R s m args below meth c0 H locs ls ad Z C hR hS hl hv1 hv2 hZ
  subst hn
  subst ho
  obtain ⟨hx, hb, hml, hown, hts, hmn, hrm, hA, hKs, hB⟩ := id C
  obtain ⟨hin, h2⟩ := List.forall_mem_cons.mp (List.forall_mem_cons.mp hv2).2
  obtain ⟨q0, hq0⟩ := gW_get (dA := K.2.1.2) (ad := ad) (ι := ι) (ρ := ρ) (hin c rfl)
  rw [gE_ref (t := t) hs ht.1] at hq0
  obtain ⟨C', -, hC'⟩ := gTys_at (dA := K.2.1.2) ht.1 ht.2
  refine va_aldq hx hb hKs.1 hR.1 q0 t hq0 hC' hi.vp hd ?_
  exact kk p e R s m args below meth c0 H locs ls ad Z C hR hS hl hv1 (List.forall_mem_cons.mpr ⟨gLive.opt fun d hd2 => hR.2.2 c _ d (hin c rfl) hd2, h2⟩) hZ
theorem x_aastN {c t : Nat} {i : Int32} (n : Nat) (hn : i.toNatClampNeg = n) (hd : decode j.2.1 pc = .ok (.aastore, 1)) (hs : shp c = 13 + t) (ht : 2 ≤ t ∧ t < 5) (hi : gIn i (Λ.2 c)) (kk : ∀ ρ', ρ' = up2 ρ c n none → gX K B dp mc ms j (pc + 1) lv st cl sl ι ρ' Λ Q) : gX K B dp mc ms j pc lv (vN :: vI i :: vR c :: st) cl sl ι ρ Λ Q := by
  intro p e R s m args below meth c0 H locs ls ad Z C hR hS hl hv1 hv2 hZ
  subst hn
  obtain ⟨hx, hb, hml, hown, hts, hmn, hrm, hA, hKs, hB⟩ := id C
  obtain ⟨hin, h2⟩ := List.forall_mem_cons.mp (List.forall_mem_cons.mp (List.forall_mem_cons.mp hv2).2).2
  obtain ⟨q0, hq0⟩ := gW_get (dA := K.2.1.2) (ad := ad) (ι := ι) (ρ := ρ) (hin c rfl)
  have hq1 := hq0
  rw [gE_ref (t := t) hs ht.1] at hq0
  obtain ⟨C', -, hC'⟩ := gTys_at (dA := K.2.1.2) ht.1 ht.2
  have hE : gE K.2.1.2 ad ι (up2 ρ c i.toNatClampNeg none) Λ.2 c = .inl (K.2.1.2 t, Λ.2 c, .inr (.inr (.inr (.inr (va_up (fun j => (ρ c j).map ad) i.toNatClampNeg none))))) := by
    rw [gE_ref (t := t) hs ht.1, up2_row]
    congr 7
    funext n2
    by_cases hn2 : n2 = i.toNatClampNeg
    · subst hn2; rw [va_up_self, va_up_self]; rfl
    · rw [va_up_ne _ _ hn2, va_up_ne _ _ hn2]
  have hW := gW_set hR.2.1 (hin c rfl) hq1 hE (fun d hd2 => gE_same rfl (up2_ne ρ _ none hd2))
  refine va_astqN hx hb hKs.1 hR.1 hR.2.1 hS q0 t hq0 hC' hi.vp hd (fun H1 locs1 hP1 hD1 hS1 => ?_)
  rw [hW] at hP1 hD1
  exact kk _ rfl p e R s m args below meth c0 H1 locs1 ls ad Z C ⟨hP1, hD1, gClosed_up hR.2.2 (fun d h => by cases h)⟩ hS1 hl hv1 h2 hZ
theorem x_aast {c t x ci : Nat} {i : Int32} (n : Nat) (hn : i.toNatClampNeg = n) (hd : decode j.2.1 pc = .ok (.aastore, 1)) (hs : shp c = 13 + t) (ht : 2 ≤ t ∧ t < 5) (hi : gIn i (Λ.2 c)) (hx0 : shp x = ci) (hcc : gaty[t]? = (gcl[ci]?).map (fun q => .object q.1)) (kk : ∀ ρ', ρ' = up2 ρ c n (some x) → gX K B dp mc ms j (pc + 1) lv st cl sl ι ρ' Λ Q) : gX K B dp mc ms j pc lv (vR x :: vI i :: vR c :: st) cl sl ι ρ Λ Q := by
  intro p e R s m args below meth c0 H locs ls ad Z C hR hS hl hv1 hv2 hZ
  subst hn
  obtain ⟨hx, hb, hml, hown, hts, hmn, hrm, hA, hKs, hB⟩ := id C
  obtain ⟨hlx, hv3⟩ := List.forall_mem_cons.mp hv2
  obtain ⟨hin, h2⟩ := List.forall_mem_cons.mp (List.forall_mem_cons.mp hv3).2
  obtain ⟨q0, hq0⟩ := gW_get (dA := K.2.1.2) (ad := ad) (ι := ι) (ρ := ρ) (hin c rfl)
  obtain ⟨q2, hq2⟩ := gW_get (dA := K.2.1.2) (ad := ad) (ι := ι) (ρ := ρ) (hlx x rfl)
  have hq1 := hq0
  rw [gE_ref (t := t) hs ht.1] at hq0
  obtain ⟨C', ha', hC'⟩ := gTys_at (dA := K.2.1.2) ht.1 ht.2
  rw [ha'] at hcc
  obtain ⟨r, hr, hr2⟩ := Option.map_eq_some_iff.mp hcc.symm
  injection hr2 with hr2
  subst hr2
  rw [gE_obj hx0 (gcl_lt hr)] at hq2
  have hE : gE K.2.1.2 ad ι (up2 ρ c i.toNatClampNeg (some x)) Λ.2 c = .inl (K.2.1.2 t, Λ.2 c, .inr (.inr (.inr (.inr (va_up (fun j => (ρ c j).map ad) i.toNatClampNeg (some (ad x))))))) := by
    rw [gE_ref (t := t) hs ht.1, up2_row]
    congr 7
    funext n2
    by_cases hn2 : n2 = i.toNatClampNeg
    · subst hn2; rw [va_up_self, va_up_self]; rfl
    · rw [va_up_ne _ _ hn2, va_up_ne _ _ hn2]
  have hW := gW_set hR.2.1 (hin c rfl) hq1 hE (fun d hd2 => gE_same rfl (up2_ne ρ _ (some x) hd2))
  refine va_astq hx hb hKs.1 hR.1 hR.2.1 hS q0 t q2 ci hq0 hC' hq2 hr hi.vp hd (fun H1 locs1 hP1 hD1 hS1 => ?_)
  rw [hW] at hP1 hD1
  exact kk _ rfl p e R s m args below meth c0 H1 locs1 ls ad Z C ⟨hP1, hD1, gClosed_up hR.2.2 (fun d h => by cases h; exact hlx x rfl)⟩ hS1 hl hv1 h2 hZ
theorem x_alen {c t : Nat} (v : Int32) (hd : decode j.2.1 pc = .ok (.arraylength, 1)) (hs : shp c = 13 + t) (ht : t < 5) (hv : Int32.ofNat (Λ.2 c) = v) (kk : gX K B dp mc ms j (pc + 1) lv (vI v :: st) cl sl ι ρ Λ Q) : gX K B dp mc ms j pc lv (vR c :: st) cl sl ι ρ Λ Q := by
  intro p e R s m args below meth c0 H locs ls ad Z C hR hS hl hv1 hv2 hZ
  obtain ⟨hx, hb, hml, hown, hts, hmn, hrm, hA, hKs, hB⟩ := id C
  obtain ⟨hin, h2⟩ := List.forall_mem_cons.mp hv2
  obtain ⟨q0, hq0⟩ := gW_get (dA := K.2.1.2) (ad := ad) (ι := ι) (ρ := ρ) (hin c rfl)
  have k2 := kk p e R s m args below meth c0 H locs ls ad Z C hR hS hl hv1 (List.forall_mem_cons.mpr ⟨gLive.int, h2⟩) hZ
  by_cases h : t < 2
  · rw [gE_arr (t := t) hs h] at hq0
    rcases (show t = 0 ∨ t = 1 by omega) with rfl | rfl
    · exact va_alen (t0 := 0) hx hb hKs.1 hR.1 q0 hq0 rfl hv hd k2
    · exact va_alen (t0 := 1) hx hb hKs.1 hR.1 q0 hq0 rfl hv hd k2
  · rw [gE_ref (t := t) hs (by omega)] at hq0
    obtain ⟨C', -, hC'⟩ := gTys_at (dA := K.2.1.2) (show 2 ≤ t by omega) ht
    exact va_alen (t0 := t) hx hb hKs.1 hR.1 q0 hq0 hC' hv hd k2
/-- the script -/
theorem x_sld {b L : Nat} {xs : Nat → Int32} {i : Int32} (n : Nat) (hn : i.toNatClampNeg = n) (hB0 : B = some (b, L, xs)) (hd : decode j.2.1 pc = .ok (.iaload, 1)) (hi : gIn i L) (kk : gX K B dp mc ms j (pc + 1) lv (vI (xs n) :: st) cl sl ι ρ Λ Q) : gX K B dp mc ms j pc lv (vI i :: vB b :: st) cl sl ι ρ Λ Q := by
  intro p e R s m args below meth c0 H locs ls ad Z C hR hS hl hv1 hv2 hZ
  subst hn
  obtain ⟨hx, hb, hml, hown, hts, hmn, hrm, hA, hKs, hB⟩ := id C
  subst hB0
  obtain ⟨hX, hbl, hbA⟩ := hB
  have h2 := (List.forall_mem_cons.mp (List.forall_mem_cons.mp hv2).2).2
  refine va_sld hx hb hX hbl hbA hS hi.vp hd ?_
  exact kk p e R s m args below meth c0 H locs ls ad Z C hR hS hl hv1 (List.forall_mem_cons.mpr ⟨gLive.int, h2⟩) hZ
theorem gIn.fx {ρ : gRm} {Λ : gLm} (hF : gFix ρ Λ) {c n : Nat} (h : gln c = some n) {i : Int32} (hi : gIn i n) : gIn i (Λ.2 c) := by rw [hF.2 c n h]; exact hi
theorem x_slen {b L : Nat} {xs : Nat → Int32} (hB0 : B = some (b, L, xs)) (hd : decode j.2.1 pc = .ok (.arraylength, 1)) (kk : gX K B dp mc ms j (pc + 1) lv (vI (Int32.ofNat L) :: st) cl sl ι ρ Λ Q) : gX K B dp mc ms j pc lv (vB b :: st) cl sl ι ρ Λ Q := by
  intro p e R s m args below meth c0 H locs ls ad Z C hR hS hl hv1 hv2 hZ
  obtain ⟨hx, hb, hml, hown, hts, hmn, hrm, hA, hKs, hB⟩ := id C
  subst hB0
  obtain ⟨hX, hbl, hbA⟩ := hB
  have h2 := (List.forall_mem_cons.mp hv2).2
  refine va_slen hx hb hX hbl hbA hS hd ?_
  exact kk p e R s m args below meth c0 H locs ls ad Z C hR hS hl hv1 (List.forall_mem_cons.mpr ⟨gLive.int, h2⟩) hZ
end ARR
