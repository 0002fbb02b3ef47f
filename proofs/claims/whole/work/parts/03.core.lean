/-! THE WALK'S OWN MEMORY. A cell has a number; ι tells what its int places hold, ρ which cell its reference places name; Λ: the cells that there are, and the arrays' lengths. ad, where the cells lie, stays inside. -/
abbrev gV : Type := Int32 ⊕ (Option Nat ⊕ Nat)
abbrev vI (x : Int32) : gV := Sum.inl x
abbrev vO (o : Option Nat) : gV := Sum.inr (Sum.inl o)
abbrev vR (c : Nat) : gV := Sum.inr (Sum.inl (some c))
abbrev vN : gV := Sum.inr (Sum.inl none)
abbrev vB (b : Nat) : gV := Sum.inr (Sum.inr b)
abbrev gIm : Type := Nat → Nat → Int32
abbrev gRm : Type := Nat → Nat → Option Nat
abbrev gLm : Type := List Nat × (Nat → Nat)
def gc (ad : Nat → Nat) (v : gV) : Value := match v with
  | Sum.inl x => .int x
  | Sum.inr (Sum.inl o) => va_rf (o.map ad)
  | Sum.inr (Sum.inr b) => .ref b
/-- one place of one cell -/
def up2 {α : Type} (f : Nat → Nat → α) (c k : Nat) (v : α) : Nat → Nat → α := va_up f c (va_up (f c) k v)
/-- what kind a cell is, by its number: 0 .. 12 the classes of gcl, 13 ints, 14 booleans, 15 .. 17 arrays of Break, House, Rope -/
def shL : List Nat := [11, 13, 8, 13, 3, 16, 13, 7, 17, 9, 17, 13, 13, 13, 1, 15, 10, 13, 13, 13, 13, 13, 5, 13, 13, 13, 13, 13, 13, 13, 13, 4, 13, 13, 14, 13, 18, 18, 18, 18, 12, 13, 13, 13, 13, 13, 13, 13, 13, 13, 14, 14, 13, 13, 13, 13, 13, 13, 14, 13, 13, 13, 13, 13, 13, 13, 13, 13, 13, 13, 13, 13, 13, 13, 13, 13, 14]
def shp (c : Nat) : Nat := if c < 100 then shL.getD c 18 else if c < 200 then 2 else if c < 400 then 6 else if c < 800 then 13 else if c < 900 then 0 else 18
theorem shp_house {i : Nat} (h : i < 100) : shp (100 + i) = 2 := by unfold shp; rw [if_neg (by omega), if_pos (by omega)]
theorem shp_rope {i : Nat} (h : i < 200) : shp (200 + i) = 6 := by unfold shp; rw [if_neg (by omega), if_neg (by omega), if_pos (by omega)]
theorem shp_own {i : Nat} (h : i < 200) : shp (400 + i) = 13 := by unfold shp; rw [if_neg (by omega), if_neg (by omega), if_neg (by omega), if_pos (by omega)]
theorem shp_car {i : Nat} (h : i < 200) : shp (600 + i) = 13 := by unfold shp; rw [if_neg (by omega), if_neg (by omega), if_neg (by omega), if_pos (by omega)]
theorem shp_brk {i : Nat} (h : i < 100) : shp (800 + i) = 0 := by unfold shp; rw [if_neg (by omega), if_neg (by omega), if_neg (by omega), if_neg (by omega), if_pos (by omega)]
def gNf (ci : Nat) : Nat := (gcl.getD ci ("", gf0, 0)).2.2
def gFv (ad : Nat → Nat) (r : Nat → Int32) (q : Nat → Option Nat) (ci k : Nat) : Value := if gIsR ci k then va_rf ((q k).map ad) else .int (r k)
def gFs (ad : Nat → Nat) (r : Nat → Int32) (q : Nat → Option Nat) (ci : Nat) : List Value := (List.range (gNf ci)).map (gFv ad r q ci)
def gE (dA : Nat → ClassId) (ad : Nat → Nat) (ι : gIm) (ρ : gRm) (ln : Nat → Nat) (c : Nat) : va_E :=
  if shp c < 13 then .inr (shp c, gFs ad (ι c) (ρ c) (shp c))
  else if shp c < 15 then .inl (dA (shp c - 13), ln c, .inl (ι c))
  else .inl (dA (shp c - 13), ln c, .inr (.inr (.inr (.inr (fun j => (ρ c j).map ad)))))
def gW (dA : Nat → ClassId) (ad : Nat → Nat) (ι : gIm) (ρ : gRm) (Λ : gLm) : va_W := Λ.1.map (fun c => (ad c, gE dA ad ι ρ Λ.2 c))
/-- what stays: the launch, the classes' numbers and slots, the arrays' classes; which cells may be written -/
abbrev gK : Type := Launch × (va_G × (Nat → ClassId)) × (Nat → Prop)
def gaty : List FieldType := [.int, .boolean, .object "GrassBridge$Break", .object "GrassBridge$House", .object "GrassBridge$Rope"]
def gTys (dA : Nat → ClassId) : List (ClassId × FieldType) := [(dA 0, .int), (dA 1, .boolean), (dA 2, .object "GrassBridge$Break"), (dA 3, .object "GrassBridge$House"), (dA 4, .object "GrassBridge$Rope")]
def gNest : List (String × Nat × MethodName × String) := [("GrassBridge", 22, ⟨"GrassBridge$Houses", "<init>", "()V"⟩, "GrassBridge"), ("GrassBridge", 29, ⟨"GrassBridge$RopeYard", "<init>", "()V"⟩, "GrassBridge"), ("GrassBridge", 36, ⟨"GrassBridge$Span", "<init>", "()V"⟩, "GrassBridge"), ("GrassBridge", 43, ⟨"GrassBridge$Breaks", "<init>", "()V"⟩, "GrassBridge"), ("GrassBridge", 50, ⟨"GrassBridge$Work", "<init>", "()V"⟩, "GrassBridge"), ("GrassBridge", 66, ⟨"GrassBridge$People", "<init>", "()V"⟩, "GrassBridge")]
def gAo : List String := ["GrassBridge$Break", "GrassBridge$House", "GrassBridge$Rope"]
def gKs (K : gK) (s : State) : Prop := va_K K.2.1.1 gcl (gTys K.2.1.2) s ∧ (∀ C ∈ gAo, va_AO C s) ∧ ∀ q ∈ gNest, va_Nw (.methodLinkNest q.1 q.2.1 q.2.2.1 q.2.2.2) s
def gRep (K : gK) (ad : Nat → Nat) (ι : gIm) (ρ : gRm) (Λ : gLm) (H : Heap) : Prop :=
  va_P K.2.1.1 gcl (gW K.2.1.2 ad ι ρ Λ) H ∧ va_D K.2.2 (gW K.2.1.2 ad ι ρ Λ) ∧ ∀ c k d, c ∈ Λ.1 → ρ c k = some d → d ∈ Λ.1
def gLive (Λ : gLm) (v : gV) : Prop := ∀ c, v = vR c → c ∈ Λ.1
def gExt (ad : Nat → Nat) (Λ : gLm) (ad' : Nat → Nat) (Λ' : gLm) : Prop := ∀ c, c ∈ Λ.1 → ad' c = ad c ∧ c ∈ Λ'.1
theorem gExt.rf {ad : Nat → Nat} {Λ : gLm} : gExt ad Λ ad Λ := fun _ h => ⟨rfl, h⟩
theorem gExt.tr {a1 a2 a3 : Nat → Nat} {L1 L2 L3 : gLm} (h : gExt a1 L1 a2 L2) (h2 : gExt a2 L2 a3 L3) : gExt a1 L1 a3 L3 := fun c hc => ⟨((h2 c (h c hc).2).1).trans (h c hc).1, (h2 c (h c hc).2).2⟩
theorem gLive.int {Λ : gLm} {x : Int32} : gLive Λ (vI x) := fun _ h => by cases h
theorem gLive.null {Λ : gLm} : gLive Λ vN := fun _ h => by cases h
theorem gLive.raw {Λ : gLm} {b : Nat} : gLive Λ (vB b) := fun _ h => by cases h
theorem gLive.ref {Λ : gLm} {c : Nat} (h : c ∈ Λ.1) : gLive Λ (vR c) := fun d e => by cases e; exact h
theorem gLive.opt {Λ : gLm} {o : Option Nat} (h : ∀ c, o = some c → c ∈ Λ.1) : gLive Λ (vO o) := fun d e => h d (by cases e; rfl)
theorem gLive.ext {ad ad' : Nat → Nat} {Λ Λ' : gLm} (he : gExt ad Λ ad' Λ') {v : gV} (h : gLive Λ v) : gLive Λ' v := fun c e => (he c (h c e)).2
theorem gc_ext {ad ad' : Nat → Nat} {Λ Λ' : gLm} (he : gExt ad Λ ad' Λ') {v : gV} (h : gLive Λ v) : gc ad' v = gc ad v := by
  rcases v with x | (_ | c) | b
  · rfl
  · rfl
  · show Value.ref _ = Value.ref _
    rw [(he c (h c rfl)).1]
  · rfl
theorem gc_cat (ad : Nat → Nat) (v : gV) : (gc ad v).category = 1 := by
  rcases v with x | (_ | c) | b <;> rfl
theorem gc_cats (ad : Nat → Nat) (l : List gV) : ((l.map (gc ad)).map fun v => v.category).sum = l.length := by
  induction l with
  | nil => rfl
  | cons a l ih => simp only [List.map_cons, List.sum_cons, List.length_cons, gc_cat, ih]; omega
theorem gc_map_ext {ad ad' : Nat → Nat} {Λ Λ' : gLm} (he : gExt ad Λ ad' Λ') {l : List gV} (h : ∀ v ∈ l, gLive Λ v) : l.map (gc ad') = l.map (gc ad) := List.map_congr_left fun v hv => gc_ext he (h v hv)
/-- the locals: place i holds the value at place i of lv -/
def gHas (ad : Nat → Nat) (ls : Array Slot) (n : Nat) (lv : List (Option gV)) : Prop := ls.size = n ∧ lv_wf ls ∧ ∀ (i : Nat) (v : gV), lv[i]? = some (some v) → ls[i]? = some (.val (gc ad v))
def gAs (ad : Nat → Nat) : Nat → List (Option gV) → List (Nat × Value)
  | _, [] => []
  | n, none :: t => gAs ad (n + 1) t
  | n, some v :: t => (n, gc ad v) :: gAs ad (n + 1) t
theorem gAs_mem (ad : Nat → Nat) : ∀ (lv : List (Option gV)) (n i : Nat) (w : Value), (i, w) ∈ gAs ad n lv ↔ ∃ (k : Nat) (v : gV), i = n + k ∧ lv[k]? = some (some v) ∧ w = gc ad v
  | [], n, i, w => by simp [gAs]
  | none :: t, n, i, w => by
    rw [gAs, gAs_mem ad t]
    constructor
    · rintro ⟨k, v, h1, h2, h3⟩
      exact ⟨k + 1, v, by omega, by simpa using h2, h3⟩
    · rintro ⟨k, v, h1, h2, h3⟩
      cases k with
      | zero => simp at h2
      | succ k => exact ⟨k, v, by omega, by simpa using h2, h3⟩
  | some v0 :: t, n, i, w => by
    rw [gAs, List.mem_cons, gAs_mem ad t]
    constructor
    · rintro (h | ⟨k, v, h1, h2, h3⟩)
      · cases h
        exact ⟨0, v0, rfl, rfl, rfl⟩
      · exact ⟨k + 1, v, by omega, by simpa using h2, h3⟩
    · rintro ⟨k, v, h1, h2, h3⟩
      cases k with
      | zero =>
        left
        simp at h2
        subst h2; subst h3; subst h1
        rfl
      | succ k => exact Or.inr ⟨k, v, by omega, by simpa using h2, h3⟩
theorem gHas.lv {ad : Nat → Nat} {ls : Array Slot} {n : Nat} {lv : List (Option gV)} (h : gHas ad ls n lv) : lv_has ls n (gAs ad 0 lv) := by
  refine ⟨h.1, h.2.1, fun q hq => ?_⟩
  obtain ⟨i, w⟩ := q
  obtain ⟨k, v, h1, h2, h3⟩ := (gAs_mem ad lv 0 i w).mp hq
  subst h3
  rw [show i = k by omega]
  exact h.2.2 k v h2
theorem gHas.of {ad : Nat → Nat} {ls : Array Slot} {n : Nat} {lv : List (Option gV)} {l : List (Nat × Value)} (h : lv_has ls n l) (hm : ∀ i v, lv[i]? = some (some v) → (i, gc ad v) ∈ l) : gHas ad ls n lv := ⟨h.1, h.2.1, fun i v hv => h.2.2 (i, gc ad v) (hm i v hv)⟩
theorem gHas.set {ad : Nat → Nat} {ls' : Array Slot} {n i : Nat} {lv : List (Option gV)} {v : gV} (h0 : i < lv.length)
    (h : lv_has ls' n ((i, gc ad v) :: (gAs ad 0 lv).filter (fun q => !(q.1 == i) && !(q.1 + 1 == i && q.2.category == 2)))) : gHas ad ls' n (lv.set i (some v)) := by
  refine gHas.of h fun j w hj => ?_
  by_cases hji : j = i
  · subst hji
    rw [List.getElem?_set_self h0] at hj
    cases hj
    exact List.mem_cons_self
  · rw [List.getElem?_set_ne (fun e => hji e.symm)] at hj
    refine List.mem_cons_of_mem _ (List.mem_filter.mpr ⟨(gAs_mem ad lv 0 j _).mpr ⟨j, w, by omega, hj, rfl⟩, ?_⟩)
    simp [hji, gc_cat]
theorem gHas.ext {ad ad' : Nat → Nat} {Λ Λ' : gLm} (he : gExt ad Λ ad' Λ') {ls : Array Slot} {n : Nat} {lv : List (Option gV)} (hv : ∀ v, some v ∈ lv → gLive Λ v) (h : gHas ad ls n lv) : gHas ad' ls n lv :=
  ⟨h.1, h.2.1, fun i v hi => by rw [gc_ext he (hv v (List.mem_of_getElem? hi))]; exact h.2.2 i v hi⟩
theorem gLvs.set {Λ : gLm} {lv : List (Option gV)} {i : Nat} {v : gV} (hv : gLive Λ v) (h : ∀ w, some w ∈ lv → gLive Λ w) : ∀ w, some w ∈ lv.set i (some v) → gLive Λ w := fun w hw => by
  rcases List.mem_or_eq_of_mem_set hw with h1 | h1
  · exact h w h1
  · cases h1
    exact hv
/-- a method: its name, bytes, how many locals, what it returns -/
def gWs (j : gJ) : List Cond := Cond.code j.1 j.2.1 j.2.2.1 j.2.2.2 :: gT
def gRm0 (dp mc ms : Nat) : Room := { frames := dp, cells := mc, slots := ms, locals := 64 * dp }
/-- the script, where there is one (in the law alone) -/
abbrev gB : Type := Option (Nat × Nat × (Nat → Int32))
def gBs (B : gB) (K : gK) (s : State) : Prop := match B with
  | none => True
  | some b => va_X b.1 b.2.1 b.2.2 s s.heap ∧ b.1 < s.heap.size ∧ ¬ K.2.2 b.1
def gCtx (K : gK) (B : gB) (dp mc ms : Nat) (j : gJ) (p : Program) (R : Room) (s : State) (m : MethodId) (args : Array Value) (meth : Method) (c : Code) : Prop :=
  p.tables.exec = Jvm.exec ∧ c.code = j.2.1 ∧ c.maxLocals = j.2.2.1 ∧ s.vm.findClass j.1.cls = some m.cls ∧ (∀ w ∈ gT, w.before args s = true) ∧ meth.name = j.1.name ∧ (dp ≤ R.frames ∧ 64 * dp ≤ R.locals ∧ mc ≤ R.cells ∧ ms ≤ R.slots) ∧ (∀ q : Nat, s.heap.size ≤ q → K.2.2 q) ∧ gKs K s ∧ gBs B K s
/-- where a method may end -/
def gEnd (j : gJ) (pc : Nat) (r : Option gV) : Prop := match r with
  | none => decode j.2.1 pc = .ok (.return_, 1) ∧ j.2.2.2 = none
  | some (Sum.inl x) => decode j.2.1 pc = .ok (.ireturn, 1) ∧ (j.2.2.2 = some .int ∨ (j.2.2.2 = some .boolean ∧ (x = 0 ∨ x = 1)))
  | some (Sum.inr _) => decode j.2.1 pc = .ok (.areturn, 1) ∧ ∃ rt, j.2.2.2 = some rt ∧ ((∃ n, rt = .object n) ∨ ∃ t, rt = .array t)
abbrev gQ : Type := Option gV → gIm → gRm → gLm → Prop
/-- from here the method comes to its end, with Q of its answer and of the memory: at most mc cells of ms slots are new, dp frames deep -/
def gX (K : gK) (B : gB) (dp mc ms : Nat) (j : gJ) (pc : Nat) (lv : List (Option gV)) (st : List gV) (cl sl : Nat) (ι : gIm) (ρ : gRm) (Λ : gLm) (Q : gQ) : Prop :=
  ∀ (p : Program) (e : Env) (R : Room) (s : State) (m : MethodId) (args : Array Value) (below : List Frame) (meth : Method) (c : Code) (H : Heap) (locs : List Loc) (ls : Array Slot) (ad : Nat → Nat) (Z : State → Prop),
    gCtx K B dp mc ms j p R s m args meth c → gRep K ad ι ρ Λ H → va_S K.2.2 s.heap H locs → gHas ad ls j.2.2.1 lv → (∀ v, some v ∈ lv → gLive Λ v) → (∀ v ∈ st, gLive Λ v) →
    (∀ (pc' : Nat) (ls' : Array Slot) (r : Option gV) (ι' : gIm) (ρ' : gRm) (Λ' : gLm) (ad' : Nat → Nat) (H' : Heap) (locs' : List Loc), Q r ι' ρ' Λ' → gRep K ad' ι' ρ' Λ' H' → gExt ad Λ ad' Λ' → (∀ v, r = some v → gLive Λ' v) → va_S K.2.2 s.heap H' locs' → gEnd j pc' r →
      W p K.1 e R s m args below meth c H' locs' mc ms Z (F0 m pc' ls' (r.toList.map (gc ad')))) →
    W p K.1 e R s m args below meth c H locs cl sl Z (F0 m pc ls (st.map (gc ad)))
/-- what a method's end says -/
def gPost (K : gK) (ad : Nat → Nat) (Λ : gLm) (Q : gQ) : Array Value → State → Outcome → State → Prop := fun _ st oc t =>
  (∃ (r : Option gV) (ι' : gIm) (ρ' : gRm) (Λ' : gLm) (ad' : Nat → Nat), oc = .returned (r.map (gc ad')) ∧ Q r ι' ρ' Λ' ∧ gRep K ad' ι' ρ' Λ' t.heap ∧ gExt ad Λ ad' Λ' ∧ ∀ v, r = some v → gLive Λ' v) ∧ va_F K.2.2 st t
def gPre (K : gK) (ad : Nat → Nat) (ι : gIm) (ρ : gRm) (Λ : gLm) (U : State) : Prop := gKs K U ∧ gRep K ad ι ρ Λ U.heap ∧ ∀ q : Nat, U.heap.size ≤ q → K.2.2 q
/-- a method's contract -/
def gC (K : gK) (dp mc ms : Nat) (j : gJ) (av : List gV) (ι : gIm) (ρ : gRm) (Λ : gLm) (Q : gQ) : Prop :=
  ∀ ad : Nat → Nat, (∀ v ∈ av, gLive Λ v) → Met K.1 j.1 (gWs j) (gRm0 dp mc ms) (va_Pc (av.map (gc ad)) (gPre K ad ι ρ Λ)) (gPost K ad Λ Q) mc ms K.2.2
/-- a contract that says all: the answer, the memory behind it -/
def gCe (K : gK) (dp mc ms : Nat) (j : gJ) (av : List gV) (ι : gIm) (ρ : gRm) (Λ : gLm) (r : Option gV) (ι' : gIm) (ρ' : gRm) (Λ' : gLm) : Prop := gC K dp mc ms j av ι ρ Λ (fun r2 a b c => r2 = r ∧ a = ι' ∧ b = ρ' ∧ c = Λ')
/-- the references that never change, the arrays' lengths -/
def gstL : List (List (Option Nat)) := [[some 1, some 2, some 4, some 7, some 9, some 14, some 16, some 22, some 31], [], [none, none, some 3], [], [some 5, some 6, none, none], [], [], [some 8, none], [], [some 10, some 11, some 12, some 13], [], [], [], [], [some 15, none], [], [some 17, some 18, some 19, some 20, some 21, none, none], [], [], [], [], [], [some 16, some 23, some 24, some 25, some 26, some 27, some 28, some 29, some 30, none, none, none, none, none, none], [], [], [], [], [], [], [], [], [some 32, some 33, some 34, some 35, none], [], [], [], [], [], [], [], [], [some 41, some 42, none, none, none, none, none, none, none, none, some 43, some 44, some 45, some 46, some 47, some 48, some 49, some 50, some 51, some 52, some 53, some 54, some 55, some 56, some 57, some 58, some 59, some 60, some 61, some 62, some 63, some 64, some 65, some 66, some 67, some 68, some 69, some 70, some 71, some 72, some 73, none, some 74, some 75, some 76], [], [], [], [], [], [], [], [], [], [], [], [], [], [], [], [], [], [], [], [], [], [], [], [], [], [], [], [], [], [], [], [], [], [], [], []]
def gst (c k : Nat) : Option Nat := (gstL.getD c []).getD k none
def glnL : List (Option Nat) := [none, some 7, none, some 52, none, some 24, some 24, none, some 200, none, some 6, some 6, some 6, some 6, none, some 40, none, some 12, some 12, some 12, some 12, some 12, none, some 256, some 256, some 256, some 256, some 256, some 8, some 9, some 9, none, some 30, some 30, some 30, some 30, none, none, none, none, none, some 7, some 52, some 24, some 24, some 24, some 24, some 24, some 24, some 24, some 24, some 24, some 200, some 200, some 200, some 200, some 600, some 600, some 200, some 6, some 6, some 6, some 6, some 120, some 24, some 9, some 12, some 12, some 12, some 12, some 12, some 8, some 8, some 9, some 30, some 30, some 30]
def gln (c : Nat) : Option Nat := glnL.getD c none
def gFix (ρ : gRm) (Λ : gLm) : Prop := (∀ c k d, gst c k = some d → ρ c k = some d) ∧ ∀ c n, gln c = some n → Λ.2 c = n
def b2i (p : Prop) [Decidable p] : Int32 := if p then 1 else 0
theorem b2i_01 (p : Prop) [Decidable p] : b2i p = 0 ∨ b2i p = 1 := by unfold b2i; split <;> simp
