section
-- ===== PART A: goes FIRST, ahead of the names: the tables' words, and 'selects' of the private methods out of them =====
/-- a private method of a class that the tables say can be made, by its rows of tables_1 -/
def lw_okq (q : MethodName × Nat) : Prop := (q.1.cls ≠ "java/lang/invoke/MethodHandle" ∧ q.1.cls ≠ "java/lang/invoke/VarHandle") ∧ Cond.instantiable q.1.cls q.2 ∈ tables_1 ∧ Cond.privateMethod q.1 ∈ tables_1 ∧ Cond.instanceMethod q.1 ∈ tables_1
theorem lw_p0 : lw_okq (⟨"GrassBridge$Season", "forgetRain", "()V"⟩, 3) := ⟨⟨by decide +kernel, by decide +kernel⟩, List.mem_of_getElem? (i := 26) (by decide +kernel), List.mem_of_getElem? (i := 32) (by decide +kernel), List.mem_of_getElem? (i := 33) (by decide +kernel)⟩
theorem lw_p1 : lw_okq (⟨"GrassBridge", "refuseAsTold", "(I)I"⟩, 9) := ⟨⟨by decide +kernel, by decide +kernel⟩, List.mem_of_getElem? (i := 18) (by decide +kernel), List.mem_of_getElem? (i := 271) (by decide +kernel), List.mem_of_getElem? (i := 272) (by decide +kernel)⟩
theorem lw_p2 : lw_okq (⟨"GrassBridge", "refuse", "(I)I"⟩, 9) := ⟨⟨by decide +kernel, by decide +kernel⟩, List.mem_of_getElem? (i := 18) (by decide +kernel), List.mem_of_getElem? (i := 276) (by decide +kernel), List.mem_of_getElem? (i := 277) (by decide +kernel)⟩
theorem lw_p3 : lw_okq (⟨"GrassBridge", "passWeek", "()V"⟩, 9) := ⟨⟨by decide +kernel, by decide +kernel⟩, List.mem_of_getElem? (i := 18) (by decide +kernel), List.mem_of_getElem? (i := 330) (by decide +kernel), List.mem_of_getElem? (i := 331) (by decide +kernel)⟩
theorem lw_p4 : lw_okq (⟨"GrassBridge$RopeYard", "keep", "(LGrassBridge$Rope;)I"⟩, 2) := ⟨⟨by decide +kernel, by decide +kernel⟩, List.mem_of_getElem? (i := 72) (by decide +kernel), List.mem_of_getElem? (i := 549) (by decide +kernel), List.mem_of_getElem? (i := 550) (by decide +kernel)⟩
theorem lw_p5 : lw_okq (⟨"GrassBridge$Planner", "sumSets", "()V"⟩, 15) := ⟨⟨by decide +kernel, by decide +kernel⟩, List.mem_of_getElem? (i := 160) (by decide +kernel), List.mem_of_getElem? (i := 690) (by decide +kernel), List.mem_of_getElem? (i := 691) (by decide +kernel)⟩
theorem lw_p6 : lw_okq (⟨"GrassBridge$Planner", "measureRests", "()V"⟩, 15) := ⟨⟨by decide +kernel, by decide +kernel⟩, List.mem_of_getElem? (i := 160) (by decide +kernel), List.mem_of_getElem? (i := 695) (by decide +kernel), List.mem_of_getElem? (i := 696) (by decide +kernel)⟩
theorem lw_p7 : lw_okq (⟨"GrassBridge$Planner", "openFrom", "(I)I"⟩, 15) := ⟨⟨by decide +kernel, by decide +kernel⟩, List.mem_of_getElem? (i := 160) (by decide +kernel), List.mem_of_getElem? (i := 699) (by decide +kernel), List.mem_of_getElem? (i := 700) (by decide +kernel)⟩
theorem lw_p8 : lw_okq (⟨"GrassBridge$Planner", "may", "(II)Z"⟩, 15) := ⟨⟨by decide +kernel, by decide +kernel⟩, List.mem_of_getElem? (i := 160) (by decide +kernel), List.mem_of_getElem? (i := 703) (by decide +kernel), List.mem_of_getElem? (i := 704) (by decide +kernel)⟩
theorem lw_p9 : lw_okq (⟨"GrassBridge$Planner", "restFrom", "(I)I"⟩, 15) := ⟨⟨by decide +kernel, by decide +kernel⟩, List.mem_of_getElem? (i := 160) (by decide +kernel), List.mem_of_getElem? (i := 713) (by decide +kernel), List.mem_of_getElem? (i := 714) (by decide +kernel)⟩
theorem lw_p10 : lw_okq (⟨"GrassBridge$Planner", "restGrouped", "(III)I"⟩, 15) := ⟨⟨by decide +kernel, by decide +kernel⟩, List.mem_of_getElem? (i := 160) (by decide +kernel), List.mem_of_getElem? (i := 718) (by decide +kernel), List.mem_of_getElem? (i := 719) (by decide +kernel)⟩
theorem lw_p11 : lw_okq (⟨"GrassBridge$Planner", "chooseRow", "()V"⟩, 15) := ⟨⟨by decide +kernel, by decide +kernel⟩, List.mem_of_getElem? (i := 160) (by decide +kernel), List.mem_of_getElem? (i := 723) (by decide +kernel), List.mem_of_getElem? (i := 724) (by decide +kernel)⟩
theorem lw_p12 : lw_okq (⟨"GrassBridge$Planner", "firstOfBest", "(I)I"⟩, 15) := ⟨⟨by decide +kernel, by decide +kernel⟩, List.mem_of_getElem? (i := 160) (by decide +kernel), List.mem_of_getElem? (i := 727) (by decide +kernel), List.mem_of_getElem? (i := 728) (by decide +kernel)⟩
theorem lw_p13 : lw_okq (⟨"GrassBridge$Planner", "daysWith", "(II)I"⟩, 15) := ⟨⟨by decide +kernel, by decide +kernel⟩, List.mem_of_getElem? (i := 160) (by decide +kernel), List.mem_of_getElem? (i := 731) (by decide +kernel), List.mem_of_getElem? (i := 732) (by decide +kernel)⟩
theorem lw_p14 : lw_okq (⟨"GrassBridge$Planner", "spentWith", "(I)I"⟩, 15) := ⟨⟨by decide +kernel, by decide +kernel⟩, List.mem_of_getElem? (i := 160) (by decide +kernel), List.mem_of_getElem? (i := 735) (by decide +kernel), List.mem_of_getElem? (i := 736) (by decide +kernel)⟩
theorem lw_p15 : lw_okq (⟨"GrassBridge$People", "nextOf", "(II)I"⟩, 5) := ⟨⟨by decide +kernel, by decide +kernel⟩, List.mem_of_getElem? (i := 212) (by decide +kernel), List.mem_of_getElem? (i := 784) (by decide +kernel), List.mem_of_getElem? (i := 785) (by decide +kernel)⟩
def lw_privs_1 : List (MethodName × Nat) := [(⟨"GrassBridge$Season", "forgetRain", "()V"⟩, 3), (⟨"GrassBridge", "refuseAsTold", "(I)I"⟩, 9), (⟨"GrassBridge", "refuse", "(I)I"⟩, 9), (⟨"GrassBridge", "passWeek", "()V"⟩, 9), (⟨"GrassBridge$RopeYard", "keep", "(LGrassBridge$Rope;)I"⟩, 2), (⟨"GrassBridge$Planner", "sumSets", "()V"⟩, 15), (⟨"GrassBridge$Planner", "measureRests", "()V"⟩, 15), (⟨"GrassBridge$Planner", "openFrom", "(I)I"⟩, 15), (⟨"GrassBridge$Planner", "may", "(II)Z"⟩, 15), (⟨"GrassBridge$Planner", "restFrom", "(I)I"⟩, 15), (⟨"GrassBridge$Planner", "restGrouped", "(III)I"⟩, 15), (⟨"GrassBridge$Planner", "chooseRow", "()V"⟩, 15), (⟨"GrassBridge$Planner", "firstOfBest", "(I)I"⟩, 15), (⟨"GrassBridge$Planner", "daysWith", "(II)I"⟩, 15), (⟨"GrassBridge$Planner", "spentWith", "(I)I"⟩, 15), (⟨"GrassBridge$People", "nextOf", "(II)I"⟩, 5)]
theorem lw_r1 : ∀ q ∈ lw_privs_1, lw_okq q := List.forall_mem_cons.mpr ⟨lw_p0, List.forall_mem_cons.mpr ⟨lw_p1, List.forall_mem_cons.mpr ⟨lw_p2, List.forall_mem_cons.mpr ⟨lw_p3, List.forall_mem_cons.mpr ⟨lw_p4, List.forall_mem_cons.mpr ⟨lw_p5, List.forall_mem_cons.mpr ⟨lw_p6, List.forall_mem_cons.mpr ⟨lw_p7, List.forall_mem_cons.mpr ⟨lw_p8, List.forall_mem_cons.mpr ⟨lw_p9, List.forall_mem_cons.mpr ⟨lw_p10, List.forall_mem_cons.mpr ⟨lw_p11, List.forall_mem_cons.mpr ⟨lw_p12, List.forall_mem_cons.mpr ⟨lw_p13, List.forall_mem_cons.mpr ⟨lw_p14, List.forall_mem_cons.mpr ⟨lw_p15, fun _ h => absurd h List.not_mem_nil⟩⟩⟩⟩⟩⟩⟩⟩⟩⟩⟩⟩⟩⟩⟩⟩
theorem lw_p16 : lw_okq (⟨"GrassBridge$People", "behind", "(I)I"⟩, 5) := ⟨⟨by decide +kernel, by decide +kernel⟩, List.mem_of_getElem? (i := 212) (by decide +kernel), List.mem_of_getElem? (i := 788) (by decide +kernel), List.mem_of_getElem? (i := 789) (by decide +kernel)⟩
theorem lw_p17 : lw_okq (⟨"GrassBridgeModel", "refuseFar", "(I)I"⟩, 45) := ⟨⟨by decide +kernel, by decide +kernel⟩, List.mem_of_getElem? (i := 796) (by decide +kernel), List.mem_of_getElem? (i := 948) (by decide +kernel), List.mem_of_getElem? (i := 949) (by decide +kernel)⟩
theorem lw_p18 : lw_okq (⟨"GrassBridgeModel", "refuse", "(I)I"⟩, 45) := ⟨⟨by decide +kernel, by decide +kernel⟩, List.mem_of_getElem? (i := 796) (by decide +kernel), List.mem_of_getElem? (i := 953) (by decide +kernel), List.mem_of_getElem? (i := 954) (by decide +kernel)⟩
theorem lw_p19 : lw_okq (⟨"GrassBridgeModel", "counts", "(I)I"⟩, 45) := ⟨⟨by decide +kernel, by decide +kernel⟩, List.mem_of_getElem? (i := 796) (by decide +kernel), List.mem_of_getElem? (i := 961) (by decide +kernel), List.mem_of_getElem? (i := 962) (by decide +kernel)⟩
theorem lw_p20 : lw_okq (⟨"GrassBridgeModel", "isHouse", "(I)Z"⟩, 45) := ⟨⟨by decide +kernel, by decide +kernel⟩, List.mem_of_getElem? (i := 796) (by decide +kernel), List.mem_of_getElem? (i := 974) (by decide +kernel), List.mem_of_getElem? (i := 975) (by decide +kernel)⟩
theorem lw_p21 : lw_okq (⟨"GrassBridgeModel", "shareOf", "(I)I"⟩, 45) := ⟨⟨by decide +kernel, by decide +kernel⟩, List.mem_of_getElem? (i := 796) (by decide +kernel), List.mem_of_getElem? (i := 994) (by decide +kernel), List.mem_of_getElem? (i := 995) (by decide +kernel)⟩
theorem lw_p22 : lw_okq (⟨"GrassBridgeModel", "allHands", "()I"⟩, 45) := ⟨⟨by decide +kernel, by decide +kernel⟩, List.mem_of_getElem? (i := 796) (by decide +kernel), List.mem_of_getElem? (i := 998) (by decide +kernel), List.mem_of_getElem? (i := 999) (by decide +kernel)⟩
theorem lw_p23 : lw_okq (⟨"GrassBridgeModel", "cordsLeft", "(I)I"⟩, 45) := ⟨⟨by decide +kernel, by decide +kernel⟩, List.mem_of_getElem? (i := 796) (by decide +kernel), List.mem_of_getElem? (i := 1014) (by decide +kernel), List.mem_of_getElem? (i := 1015) (by decide +kernel)⟩
theorem lw_p24 : lw_okq (⟨"GrassBridgeModel", "adds", "(IIIII)I"⟩, 45) := ⟨⟨by decide +kernel, by decide +kernel⟩, List.mem_of_getElem? (i := 796) (by decide +kernel), List.mem_of_getElem? (i := 1022) (by decide +kernel), List.mem_of_getElem? (i := 1023) (by decide +kernel)⟩
theorem lw_p25 : lw_okq (⟨"GrassBridgeModel", "isRope", "(I)Z"⟩, 45) := ⟨⟨by decide +kernel, by decide +kernel⟩, List.mem_of_getElem? (i := 796) (by decide +kernel), List.mem_of_getElem? (i := 1030) (by decide +kernel), List.mem_of_getElem? (i := 1031) (by decide +kernel)⟩
theorem lw_p26 : lw_okq (⟨"GrassBridgeModel", "isFree", "(I)Z"⟩, 45) := ⟨⟨by decide +kernel, by decide +kernel⟩, List.mem_of_getElem? (i := 796) (by decide +kernel), List.mem_of_getElem? (i := 1034) (by decide +kernel), List.mem_of_getElem? (i := 1035) (by decide +kernel)⟩
theorem lw_p27 : lw_okq (⟨"GrassBridgeModel", "strandsOf", "(II)I"⟩, 45) := ⟨⟨by decide +kernel, by decide +kernel⟩, List.mem_of_getElem? (i := 796) (by decide +kernel), List.mem_of_getElem? (i := 1042) (by decide +kernel), List.mem_of_getElem? (i := 1043) (by decide +kernel)⟩
theorem lw_p28 : lw_okq (⟨"GrassBridgeModel", "gone", "(I)I"⟩, 45) := ⟨⟨by decide +kernel, by decide +kernel⟩, List.mem_of_getElem? (i := 796) (by decide +kernel), List.mem_of_getElem? (i := 1054) (by decide +kernel), List.mem_of_getElem? (i := 1055) (by decide +kernel)⟩
theorem lw_p29 : lw_okq (⟨"GrassBridgeModel", "strengthOf", "(II)I"⟩, 45) := ⟨⟨by decide +kernel, by decide +kernel⟩, List.mem_of_getElem? (i := 796) (by decide +kernel), List.mem_of_getElem? (i := 1066) (by decide +kernel), List.mem_of_getElem? (i := 1067) (by decide +kernel)⟩
theorem lw_p30 : lw_okq (⟨"GrassBridgeModel", "bearsWith", "(I)I"⟩, 45) := ⟨⟨by decide +kernel, by decide +kernel⟩, List.mem_of_getElem? (i := 796) (by decide +kernel), List.mem_of_getElem? (i := 1074) (by decide +kernel), List.mem_of_getElem? (i := 1075) (by decide +kernel)⟩
theorem lw_p31 : lw_okq (⟨"GrassBridgeModel", "isLet", "(II)Z"⟩, 45) := ⟨⟨by decide +kernel, by decide +kernel⟩, List.mem_of_getElem? (i := 796) (by decide +kernel), List.mem_of_getElem? (i := 1082) (by decide +kernel), List.mem_of_getElem? (i := 1083) (by decide +kernel)⟩
def lw_privs_2 : List (MethodName × Nat) := [(⟨"GrassBridge$People", "behind", "(I)I"⟩, 5), (⟨"GrassBridgeModel", "refuseFar", "(I)I"⟩, 45), (⟨"GrassBridgeModel", "refuse", "(I)I"⟩, 45), (⟨"GrassBridgeModel", "counts", "(I)I"⟩, 45), (⟨"GrassBridgeModel", "isHouse", "(I)Z"⟩, 45), (⟨"GrassBridgeModel", "shareOf", "(I)I"⟩, 45), (⟨"GrassBridgeModel", "allHands", "()I"⟩, 45), (⟨"GrassBridgeModel", "cordsLeft", "(I)I"⟩, 45), (⟨"GrassBridgeModel", "adds", "(IIIII)I"⟩, 45), (⟨"GrassBridgeModel", "isRope", "(I)Z"⟩, 45), (⟨"GrassBridgeModel", "isFree", "(I)Z"⟩, 45), (⟨"GrassBridgeModel", "strandsOf", "(II)I"⟩, 45), (⟨"GrassBridgeModel", "gone", "(I)I"⟩, 45), (⟨"GrassBridgeModel", "strengthOf", "(II)I"⟩, 45), (⟨"GrassBridgeModel", "bearsWith", "(I)I"⟩, 45), (⟨"GrassBridgeModel", "isLet", "(II)Z"⟩, 45)]
theorem lw_r2 : ∀ q ∈ lw_privs_2, lw_okq q := List.forall_mem_cons.mpr ⟨lw_p16, List.forall_mem_cons.mpr ⟨lw_p17, List.forall_mem_cons.mpr ⟨lw_p18, List.forall_mem_cons.mpr ⟨lw_p19, List.forall_mem_cons.mpr ⟨lw_p20, List.forall_mem_cons.mpr ⟨lw_p21, List.forall_mem_cons.mpr ⟨lw_p22, List.forall_mem_cons.mpr ⟨lw_p23, List.forall_mem_cons.mpr ⟨lw_p24, List.forall_mem_cons.mpr ⟨lw_p25, List.forall_mem_cons.mpr ⟨lw_p26, List.forall_mem_cons.mpr ⟨lw_p27, List.forall_mem_cons.mpr ⟨lw_p28, List.forall_mem_cons.mpr ⟨lw_p29, List.forall_mem_cons.mpr ⟨lw_p30, List.forall_mem_cons.mpr ⟨lw_p31, fun _ h => absurd h List.not_mem_nil⟩⟩⟩⟩⟩⟩⟩⟩⟩⟩⟩⟩⟩⟩⟩⟩
theorem lw_p32 : lw_okq (⟨"GrassBridgeModel", "wetOf", "(I)I"⟩, 45) := ⟨⟨by decide +kernel, by decide +kernel⟩, List.mem_of_getElem? (i := 796) (by decide +kernel), List.mem_of_getElem? (i := 1090) (by decide +kernel), List.mem_of_getElem? (i := 1091) (by decide +kernel)⟩
theorem lw_p33 : lw_okq (⟨"GrassBridgeModel", "breaks", "(I)V"⟩, 45) := ⟨⟨by decide +kernel, by decide +kernel⟩, List.mem_of_getElem? (i := 796) (by decide +kernel), List.mem_of_getElem? (i := 1094) (by decide +kernel), List.mem_of_getElem? (i := 1095) (by decide +kernel)⟩
theorem lw_p34 : lw_okq (⟨"GrassBridgeModel", "plans", "()V"⟩, 45) := ⟨⟨by decide +kernel, by decide +kernel⟩, List.mem_of_getElem? (i := 796) (by decide +kernel), List.mem_of_getElem? (i := 1122) (by decide +kernel), List.mem_of_getElem? (i := 1123) (by decide +kernel)⟩
theorem lw_p35 : lw_okq (⟨"GrassBridgeModel", "tries", "(IIIIZ)V"⟩, 45) := ⟨⟨by decide +kernel, by decide +kernel⟩, List.mem_of_getElem? (i := 796) (by decide +kernel), List.mem_of_getElem? (i := 1126) (by decide +kernel), List.mem_of_getElem? (i := 1127) (by decide +kernel)⟩
theorem lw_p36 : lw_okq (⟨"GrassBridgeModel", "daysOf", "()I"⟩, 45) := ⟨⟨by decide +kernel, by decide +kernel⟩, List.mem_of_getElem? (i := 796) (by decide +kernel), List.mem_of_getElem? (i := 1130) (by decide +kernel), List.mem_of_getElem? (i := 1131) (by decide +kernel)⟩
theorem lw_p37 : lw_okq (⟨"GrassBridgeModel", "lineOf", "(I)I"⟩, 45) := ⟨⟨by decide +kernel, by decide +kernel⟩, List.mem_of_getElem? (i := 796) (by decide +kernel), List.mem_of_getElem? (i := 1153) (by decide +kernel), List.mem_of_getElem? (i := 1154) (by decide +kernel)⟩
theorem lw_p38 : lw_okq (⟨"GrassBridgeModel", "child", "(II)I"⟩, 45) := ⟨⟨by decide +kernel, by decide +kernel⟩, List.mem_of_getElem? (i := 796) (by decide +kernel), List.mem_of_getElem? (i := 1157) (by decide +kernel), List.mem_of_getElem? (i := 1158) (by decide +kernel)⟩
theorem lw_p39 : lw_okq (⟨"GrassBridgeModel", "isBefore", "(II)Z"⟩, 45) := ⟨⟨by decide +kernel, by decide +kernel⟩, List.mem_of_getElem? (i := 796) (by decide +kernel), List.mem_of_getElem? (i := 1161) (by decide +kernel), List.mem_of_getElem? (i := 1162) (by decide +kernel)⟩
def lw_privs_3 : List (MethodName × Nat) := [(⟨"GrassBridgeModel", "wetOf", "(I)I"⟩, 45), (⟨"GrassBridgeModel", "breaks", "(I)V"⟩, 45), (⟨"GrassBridgeModel", "plans", "()V"⟩, 45), (⟨"GrassBridgeModel", "tries", "(IIIIZ)V"⟩, 45), (⟨"GrassBridgeModel", "daysOf", "()I"⟩, 45), (⟨"GrassBridgeModel", "lineOf", "(I)I"⟩, 45), (⟨"GrassBridgeModel", "child", "(II)I"⟩, 45), (⟨"GrassBridgeModel", "isBefore", "(II)Z"⟩, 45)]
theorem lw_r3 : ∀ q ∈ lw_privs_3, lw_okq q := List.forall_mem_cons.mpr ⟨lw_p32, List.forall_mem_cons.mpr ⟨lw_p33, List.forall_mem_cons.mpr ⟨lw_p34, List.forall_mem_cons.mpr ⟨lw_p35, List.forall_mem_cons.mpr ⟨lw_p36, List.forall_mem_cons.mpr ⟨lw_p37, List.forall_mem_cons.mpr ⟨lw_p38, List.forall_mem_cons.mpr ⟨lw_p39, fun _ h => absurd h List.not_mem_nil⟩⟩⟩⟩⟩⟩⟩⟩
def lw_privs : List (MethodName × Nat) := lw_privs_1 ++ (lw_privs_2 ++ (lw_privs_3))
def lw_tbl : List Cond := k2_sels lw_privs ++ tables_1
theorem lw_privs_ok : ∀ q ∈ lw_privs, lw_okq q := by
  show ∀ q ∈ lw_privs_1 ++ (lw_privs_2 ++ (lw_privs_3)), lw_okq q
  exact List.forall_mem_append.mpr ⟨lw_r1, List.forall_mem_append.mpr ⟨lw_r2, lw_r3⟩⟩
-- ===== end of PART A; then your names; then what follows =====
end
section
/-! the words of the tables that are used, by their places; the classes and their fields -/
def gT : List Cond := lw_tbl.filter goodWord
theorem gT_1 {i : Nat} {w : Cond} (h : tables_1_1[i]? = some w) (hg : goodWord w = true) : w ∈ gT := List.mem_filter.mpr ⟨by have h0 := List.mem_of_getElem? h; simp only [lw_tbl, tables_1, List.mem_append, h0, true_or, or_true], hg⟩
theorem gT_2 {i : Nat} {w : Cond} (h : tables_1_2[i]? = some w) (hg : goodWord w = true) : w ∈ gT := List.mem_filter.mpr ⟨by have h0 := List.mem_of_getElem? h; simp only [lw_tbl, tables_1, List.mem_append, h0, true_or, or_true], hg⟩
theorem gT_3 {i : Nat} {w : Cond} (h : tables_1_3[i]? = some w) (hg : goodWord w = true) : w ∈ gT := List.mem_filter.mpr ⟨by have h0 := List.mem_of_getElem? h; simp only [lw_tbl, tables_1, List.mem_append, h0, true_or, or_true], hg⟩
theorem gT_4 {i : Nat} {w : Cond} (h : tables_1_4[i]? = some w) (hg : goodWord w = true) : w ∈ gT := List.mem_filter.mpr ⟨by have h0 := List.mem_of_getElem? h; simp only [lw_tbl, tables_1, List.mem_append, h0, true_or, or_true], hg⟩
theorem gT_5 {i : Nat} {w : Cond} (h : tables_1_5[i]? = some w) (hg : goodWord w = true) : w ∈ gT := List.mem_filter.mpr ⟨by have h0 := List.mem_of_getElem? h; simp only [lw_tbl, tables_1, List.mem_append, h0, true_or, or_true], hg⟩
theorem gT_p {i : Nat} {w : Cond} (h : (k2_sels lw_privs)[i]? = some w) (hg : goodWord w = true) : w ∈ gT := List.mem_filter.mpr ⟨by have h0 := List.mem_of_getElem? h; simp only [lw_tbl, List.mem_append, h0, true_or], hg⟩
theorem gT_good : ∀ w ∈ gT, w ∈ lw_tbl ∧ goodWord w = true := fun w h => List.mem_filter.mp h
set_option maxRecDepth 20000 in
theorem gw1_0 : (Cond.initialized "GrassBridgeLaw") ∈ gT := gT_1 (i := 0) rfl rfl
set_option maxRecDepth 20000 in
theorem gw1_1 : (Cond.initialized "GrassBridge") ∈ gT := gT_1 (i := 1) rfl rfl
set_option maxRecDepth 20000 in
theorem gw1_2 : (Cond.initialized "GrassBridge$Season") ∈ gT := gT_1 (i := 2) rfl rfl
set_option maxRecDepth 20000 in
theorem gw1_3 : (Cond.initialized "GrassBridge$Houses") ∈ gT := gT_1 (i := 3) rfl rfl
set_option maxRecDepth 20000 in
theorem gw1_4 : (Cond.initialized "GrassBridge$RopeYard") ∈ gT := gT_1 (i := 4) rfl rfl
set_option maxRecDepth 20000 in
theorem gw1_5 : (Cond.initialized "GrassBridge$Span") ∈ gT := gT_1 (i := 5) rfl rfl
set_option maxRecDepth 20000 in
theorem gw1_6 : (Cond.initialized "GrassBridge$Breaks") ∈ gT := gT_1 (i := 6) rfl rfl
set_option maxRecDepth 20000 in
theorem gw1_7 : (Cond.initialized "GrassBridge$Work") ∈ gT := gT_1 (i := 7) rfl rfl
set_option maxRecDepth 20000 in
theorem gw1_8 : (Cond.initialized "GrassBridge$Planner") ∈ gT := gT_1 (i := 8) rfl rfl
set_option maxRecDepth 20000 in
theorem gw1_9 : (Cond.initialized "GrassBridge$People") ∈ gT := gT_1 (i := 9) rfl rfl
set_option maxRecDepth 20000 in
theorem gw1_10 : (Cond.initialized "GrassBridgeModel") ∈ gT := gT_1 (i := 10) rfl rfl
set_option maxRecDepth 20000 in
theorem gw1_11 : (Cond.initialized "java/lang/Math") ∈ gT := gT_1 (i := 11) rfl rfl
set_option maxRecDepth 20000 in
theorem gw1_12 : (Cond.initialized "GrassBridge$House") ∈ gT := gT_1 (i := 12) rfl rfl
set_option maxRecDepth 20000 in
theorem gw1_13 : (Cond.initialized "GrassBridge$Rope") ∈ gT := gT_1 (i := 13) rfl rfl
set_option maxRecDepth 20000 in
theorem gw1_14 : (Cond.initialized "java/lang/System") ∈ gT := gT_1 (i := 14) rfl rfl
set_option maxRecDepth 20000 in
theorem gw1_15 : (Cond.initialized "GrassBridge$Break") ∈ gT := gT_1 (i := 15) rfl rfl
set_option maxRecDepth 20000 in
theorem gw1_16 : (Cond.initialized "java/lang/Integer") ∈ gT := gT_1 (i := 16) rfl rfl
set_option maxRecDepth 20000 in
theorem gw1_17 : (Cond.classLink "GrassBridgeLaw" (7 : Nat) "GrassBridge") ∈ gT := gT_1 (i := 17) rfl rfl
set_option maxRecDepth 20000 in
theorem gw1_18 : (Cond.instantiable "GrassBridge" (9 : Nat)) ∈ gT := gT_1 (i := 18) rfl rfl
set_option maxRecDepth 20000 in
theorem gw1_19 : (Cond.methodLink "GrassBridgeLaw" (9 : Nat) ⟨"GrassBridge", "<init>", "()V"⟩) ∈ gT := gT_1 (i := 19) rfl rfl
set_option maxRecDepth 20000 in
theorem gw1_20 : (Cond.instanceMethod ⟨"GrassBridge", "<init>", "()V"⟩) ∈ gT := gT_1 (i := 20) rfl rfl
set_option maxRecDepth 20000 in
theorem gw1_21 : (Cond.code ⟨"GrassBridge", "<init>", "()V"⟩ prog_1_method_1_code (1 : Nat) (Option.none : Option FieldType)) ∈ gT := gT_1 (i := 21) rfl rfl
set_option maxRecDepth 20000 in
theorem gw1_22 : (Cond.methodLink "GrassBridge" (1 : Nat) ⟨"java/lang/Object", "<init>", "()V"⟩) ∈ gT := gT_1 (i := 22) rfl rfl
set_option maxRecDepth 20000 in
theorem gw1_23 : (Cond.instanceMethod ⟨"java/lang/Object", "<init>", "()V"⟩) ∈ gT := gT_1 (i := 23) rfl rfl
set_option maxRecDepth 20000 in
theorem gw1_24 : (Cond.code ⟨"java/lang/Object", "<init>", "()V"⟩ object_method_1_code (1 : Nat) (Option.none : Option FieldType)) ∈ gT := gT_1 (i := 24) rfl rfl
set_option maxRecDepth 20000 in
theorem gw1_25 : (Cond.classLink "GrassBridge" (13 : Nat) "GrassBridge$Season") ∈ gT := gT_1 (i := 25) rfl rfl
set_option maxRecDepth 20000 in
theorem gw1_26 : (Cond.instantiable "GrassBridge$Season" (3 : Nat)) ∈ gT := gT_1 (i := 26) rfl rfl
set_option maxRecDepth 20000 in
theorem gw1_27 : (Cond.methodLink "GrassBridge" (15 : Nat) ⟨"GrassBridge$Season", "<init>", "()V"⟩) ∈ gT := gT_1 (i := 27) rfl rfl
set_option maxRecDepth 20000 in
theorem gw1_28 : (Cond.instanceMethod ⟨"GrassBridge$Season", "<init>", "()V"⟩) ∈ gT := gT_1 (i := 28) rfl rfl
set_option maxRecDepth 20000 in
theorem gw1_29 : (Cond.code ⟨"GrassBridge$Season", "<init>", "()V"⟩ prog_10_method_1_code (1 : Nat) (Option.none : Option FieldType)) ∈ gT := gT_1 (i := 29) rfl rfl
set_option maxRecDepth 20000 in
theorem gw1_30 : (Cond.methodLink "GrassBridge$Season" (3 : Nat) ⟨"java/lang/Object", "<init>", "()V"⟩) ∈ gT := gT_1 (i := 30) rfl rfl
set_option maxRecDepth 20000 in
theorem gw1_31 : (Cond.methodLink "GrassBridge$Season" (15 : Nat) ⟨"GrassBridge$Season", "forgetRain", "()V"⟩) ∈ gT := gT_1 (i := 31) rfl rfl
set_option maxRecDepth 20000 in
theorem gw1_33 : (Cond.instanceMethod ⟨"GrassBridge$Season", "forgetRain", "()V"⟩) ∈ gT := gT_1 (i := 33) rfl rfl
set_option maxRecDepth 20000 in
theorem gw1_34 : (Cond.code ⟨"GrassBridge$Season", "forgetRain", "()V"⟩ prog_10_method_3_code (2 : Nat) (Option.none : Option FieldType)) ∈ gT := gT_1 (i := 34) rfl rfl
set_option maxRecDepth 20000 in
theorem gw1_35 : (Cond.fieldLink "GrassBridge$Season" (32 : Nat) "GrassBridge$Season" "year" "I") ∈ gT := gT_1 (i := 35) rfl rfl
set_option maxRecDepth 20000 in
theorem gw1_36 : (Cond.fieldLink "GrassBridge" (94 : Nat) "GrassBridge$Season" "year" "I") ∈ gT := gT_1 (i := 36) rfl rfl
set_option maxRecDepth 20000 in
theorem gw1_37 : (Cond.fieldLink "GrassBridge$Season" (36 : Nat) "GrassBridge$Season" "week" "I") ∈ gT := gT_1 (i := 37) rfl rfl
set_option maxRecDepth 20000 in
theorem gw1_38 : (Cond.fieldLink "GrassBridge" (104 : Nat) "GrassBridge$Season" "week" "I") ∈ gT := gT_1 (i := 38) rfl rfl
set_option maxRecDepth 20000 in
theorem gw1_39 : (Cond.fieldLink "GrassBridge$Season" (9 : Nat) "GrassBridge$Season" "told" "[I") ∈ gT := gT_1 (i := 39) rfl rfl
set_option maxRecDepth 20000 in
theorem gw1_40 : (Cond.lays "GrassBridge$Season" "GrassBridge$Season" "year" "I") ∈ gT := gT_1 (i := 40) rfl rfl
set_option maxRecDepth 20000 in
theorem gw1_42 : (Cond.lays "GrassBridge$Season" "GrassBridge$Season" "week" "I") ∈ gT := gT_1 (i := 42) rfl rfl
set_option maxRecDepth 20000 in
theorem gw1_44 : (Cond.laysFinal "GrassBridge$Season" "GrassBridge$Season" "told" "[I") ∈ gT := gT_1 (i := 44) rfl rfl
set_option maxRecDepth 20000 in
theorem gw1_47 : (Cond.arrayClass FieldType.int) ∈ gT := gT_1 (i := 47) rfl rfl
set_option maxRecDepth 20000 in
theorem gw1_48 : (Cond.classLink "GrassBridge" (20 : Nat) "GrassBridge$Houses") ∈ gT := gT_1 (i := 48) rfl rfl
set_option maxRecDepth 20000 in
theorem gw1_49 : (Cond.instantiable "GrassBridge$Houses" (4 : Nat)) ∈ gT := gT_1 (i := 49) rfl rfl
set_option maxRecDepth 20000 in
theorem gw1_51 : (Cond.instanceMethod ⟨"GrassBridge$Houses", "<init>", "()V"⟩) ∈ gT := gT_1 (i := 51) rfl rfl
set_option maxRecDepth 20000 in
theorem gw1_52 : (Cond.code ⟨"GrassBridge$Houses", "<init>", "()V"⟩ prog_5_method_1_code (1 : Nat) (Option.none : Option FieldType)) ∈ gT := gT_1 (i := 52) rfl rfl
set_option maxRecDepth 20000 in
theorem gw1_53 : (Cond.methodLink "GrassBridge$Houses" (3 : Nat) ⟨"java/lang/Object", "<init>", "()V"⟩) ∈ gT := gT_1 (i := 53) rfl rfl
set_option maxRecDepth 20000 in
theorem gw1_54 : (Cond.classLink "GrassBridge$Houses" (9 : Nat) "GrassBridge$House") ∈ gT := gT_1 (i := 54) rfl rfl
set_option maxRecDepth 20000 in
theorem gw1_56 : (Cond.fieldLink "GrassBridge$Houses" (11 : Nat) "GrassBridge$Houses" "all" "[LGrassBridge$House;") ∈ gT := gT_1 (i := 56) rfl rfl
set_option maxRecDepth 20000 in
theorem gw1_57 : (Cond.fieldLink "GrassBridge$Houses" (17 : Nat) "GrassBridge$Houses" "shares" "[I") ∈ gT := gT_1 (i := 57) rfl rfl
set_option maxRecDepth 20000 in
theorem gw1_58 : (Cond.fieldLink "GrassBridge$Houses" (21 : Nat) "GrassBridge$Houses" "count" "I") ∈ gT := gT_1 (i := 58) rfl rfl
set_option maxRecDepth 20000 in
theorem gw1_59 : (Cond.fieldLink "GrassBridge" (133 : Nat) "GrassBridge$Houses" "count" "I") ∈ gT := gT_1 (i := 59) rfl rfl
set_option maxRecDepth 20000 in
theorem gw1_60 : (Cond.fieldLink "GrassBridge$Houses" (46 : Nat) "GrassBridge$Houses" "asked" "I") ∈ gT := gT_1 (i := 60) rfl rfl
set_option maxRecDepth 20000 in
theorem gw1_61 : (Cond.fieldLink "GrassBridge" (169 : Nat) "GrassBridge$Houses" "asked" "I") ∈ gT := gT_1 (i := 61) rfl rfl
set_option maxRecDepth 20000 in
theorem gw1_62 : (Cond.laysFinal "GrassBridge$Houses" "GrassBridge$Houses" "all" "[LGrassBridge$House;") ∈ gT := gT_1 (i := 62) rfl rfl
set_option maxRecDepth 20000 in
theorem gw1_64 : (Cond.laysFinal "GrassBridge$Houses" "GrassBridge$Houses" "shares" "[I") ∈ gT := gT_1 (i := 64) rfl rfl
set_option maxRecDepth 20000 in
theorem gw1_66 : (Cond.lays "GrassBridge$Houses" "GrassBridge$Houses" "count" "I") ∈ gT := gT_1 (i := 66) rfl rfl
set_option maxRecDepth 20000 in
theorem gw1_68 : (Cond.lays "GrassBridge$Houses" "GrassBridge$Houses" "asked" "I") ∈ gT := gT_1 (i := 68) rfl rfl
set_option maxRecDepth 20000 in
theorem gw1_71 : (Cond.classLink "GrassBridge" (27 : Nat) "GrassBridge$RopeYard") ∈ gT := gT_1 (i := 71) rfl rfl
set_option maxRecDepth 20000 in
theorem gw1_72 : (Cond.instantiable "GrassBridge$RopeYard" (2 : Nat)) ∈ gT := gT_1 (i := 72) rfl rfl
set_option maxRecDepth 20000 in
theorem gw1_74 : (Cond.instanceMethod ⟨"GrassBridge$RopeYard", "<init>", "()V"⟩) ∈ gT := gT_1 (i := 74) rfl rfl
set_option maxRecDepth 20000 in
theorem gw1_75 : (Cond.code ⟨"GrassBridge$RopeYard", "<init>", "()V"⟩ prog_9_method_1_code (1 : Nat) (Option.none : Option FieldType)) ∈ gT := gT_1 (i := 75) rfl rfl
set_option maxRecDepth 20000 in
theorem gw1_76 : (Cond.methodLink "GrassBridge$RopeYard" (3 : Nat) ⟨"java/lang/Object", "<init>", "()V"⟩) ∈ gT := gT_1 (i := 76) rfl rfl
set_option maxRecDepth 20000 in
theorem gw1_77 : (Cond.classLink "GrassBridge$RopeYard" (9 : Nat) "GrassBridge$Rope") ∈ gT := gT_1 (i := 77) rfl rfl
set_option maxRecDepth 20000 in
theorem gw1_79 : (Cond.fieldLink "GrassBridge$RopeYard" (11 : Nat) "GrassBridge$RopeYard" "ropes" "[LGrassBridge$Rope;") ∈ gT := gT_1 (i := 79) rfl rfl
set_option maxRecDepth 20000 in
theorem gw1_80 : (Cond.fieldLink "GrassBridge$RopeYard" (17 : Nat) "GrassBridge$RopeYard" "count" "I") ∈ gT := gT_1 (i := 80) rfl rfl
set_option maxRecDepth 20000 in
theorem gw1_81 : (Cond.fieldLink "GrassBridge" (297 : Nat) "GrassBridge$RopeYard" "count" "I") ∈ gT := gT_1 (i := 81) rfl rfl
set_option maxRecDepth 20000 in
theorem gw1_82 : (Cond.laysFinal "GrassBridge$RopeYard" "GrassBridge$RopeYard" "ropes" "[LGrassBridge$Rope;") ∈ gT := gT_1 (i := 82) rfl rfl
set_option maxRecDepth 20000 in
theorem gw1_84 : (Cond.lays "GrassBridge$RopeYard" "GrassBridge$RopeYard" "count" "I") ∈ gT := gT_1 (i := 84) rfl rfl
set_option maxRecDepth 20000 in
theorem gw1_87 : (Cond.classLink "GrassBridge" (34 : Nat) "GrassBridge$Span") ∈ gT := gT_1 (i := 87) rfl rfl
set_option maxRecDepth 20000 in
theorem gw1_88 : (Cond.instantiable "GrassBridge$Span" (4 : Nat)) ∈ gT := gT_1 (i := 88) rfl rfl
set_option maxRecDepth 20000 in
theorem gw1_90 : (Cond.instanceMethod ⟨"GrassBridge$Span", "<init>", "()V"⟩) ∈ gT := gT_1 (i := 90) rfl rfl
set_option maxRecDepth 20000 in
theorem gw1_91 : (Cond.code ⟨"GrassBridge$Span", "<init>", "()V"⟩ prog_11_method_1_code (1 : Nat) (Option.none : Option FieldType)) ∈ gT := gT_1 (i := 91) rfl rfl
set_option maxRecDepth 20000 in
theorem gw1_92 : (Cond.methodLink "GrassBridge$Span" (3 : Nat) ⟨"java/lang/Object", "<init>", "()V"⟩) ∈ gT := gT_1 (i := 92) rfl rfl
set_option maxRecDepth 20000 in
theorem gw1_93 : (Cond.classLink "GrassBridge$Span" (9 : Nat) "GrassBridge$Rope") ∈ gT := gT_1 (i := 93) rfl rfl
set_option maxRecDepth 20000 in
theorem gw1_94 : (Cond.fieldLink "GrassBridge$Span" (11 : Nat) "GrassBridge$Span" "ropes" "[LGrassBridge$Rope;") ∈ gT := gT_1 (i := 94) rfl rfl
set_option maxRecDepth 20000 in
theorem gw1_95 : (Cond.fieldLink "GrassBridge$Span" (17 : Nat) "GrassBridge$Span" "tensions" "[I") ∈ gT := gT_1 (i := 95) rfl rfl
set_option maxRecDepth 20000 in
theorem gw1_96 : (Cond.fieldLink "GrassBridge$Span" (21 : Nat) "GrassBridge$Span" "wet" "[I") ∈ gT := gT_1 (i := 96) rfl rfl
set_option maxRecDepth 20000 in
theorem gw1_97 : (Cond.fieldLink "GrassBridge$Span" (24 : Nat) "GrassBridge$Span" "yearHung" "[I") ∈ gT := gT_1 (i := 97) rfl rfl
set_option maxRecDepth 20000 in
theorem gw1_98 : (Cond.laysFinal "GrassBridge$Span" "GrassBridge$Span" "ropes" "[LGrassBridge$Rope;") ∈ gT := gT_1 (i := 98) rfl rfl
set_option maxRecDepth 20000 in
theorem gw1_100 : (Cond.laysFinal "GrassBridge$Span" "GrassBridge$Span" "tensions" "[I") ∈ gT := gT_1 (i := 100) rfl rfl
set_option maxRecDepth 20000 in
theorem gw1_102 : (Cond.laysFinal "GrassBridge$Span" "GrassBridge$Span" "wet" "[I") ∈ gT := gT_1 (i := 102) rfl rfl
set_option maxRecDepth 20000 in
theorem gw1_104 : (Cond.laysFinal "GrassBridge$Span" "GrassBridge$Span" "yearHung" "[I") ∈ gT := gT_1 (i := 104) rfl rfl
set_option maxRecDepth 20000 in
theorem gw1_107 : (Cond.classLink "GrassBridge" (41 : Nat) "GrassBridge$Breaks") ∈ gT := gT_1 (i := 107) rfl rfl
set_option maxRecDepth 20000 in
theorem gw1_108 : (Cond.instantiable "GrassBridge$Breaks" (2 : Nat)) ∈ gT := gT_1 (i := 108) rfl rfl
set_option maxRecDepth 20000 in
theorem gw1_110 : (Cond.instanceMethod ⟨"GrassBridge$Breaks", "<init>", "()V"⟩) ∈ gT := gT_1 (i := 110) rfl rfl
set_option maxRecDepth 20000 in
theorem gw1_111 : (Cond.code ⟨"GrassBridge$Breaks", "<init>", "()V"⟩ prog_3_method_1_code (1 : Nat) (Option.none : Option FieldType)) ∈ gT := gT_1 (i := 111) rfl rfl
set_option maxRecDepth 20000 in
theorem gw1_112 : (Cond.methodLink "GrassBridge$Breaks" (3 : Nat) ⟨"java/lang/Object", "<init>", "()V"⟩) ∈ gT := gT_1 (i := 112) rfl rfl
set_option maxRecDepth 20000 in
theorem gw1_113 : (Cond.classLink "GrassBridge$Breaks" (9 : Nat) "GrassBridge$Break") ∈ gT := gT_1 (i := 113) rfl rfl
set_option maxRecDepth 20000 in
theorem gw1_115 : (Cond.fieldLink "GrassBridge$Breaks" (11 : Nat) "GrassBridge$Breaks" "kept" "[LGrassBridge$Break;") ∈ gT := gT_1 (i := 115) rfl rfl
set_option maxRecDepth 20000 in
theorem gw1_116 : (Cond.fieldLink "GrassBridge$Breaks" (17 : Nat) "GrassBridge$Breaks" "count" "I") ∈ gT := gT_1 (i := 116) rfl rfl
set_option maxRecDepth 20000 in
theorem gw1_117 : (Cond.fieldLink "GrassBridge" (298 : Nat) "GrassBridge$Breaks" "count" "I") ∈ gT := gT_1 (i := 117) rfl rfl
set_option maxRecDepth 20000 in
theorem gw1_118 : (Cond.laysFinal "GrassBridge$Breaks" "GrassBridge$Breaks" "kept" "[LGrassBridge$Break;") ∈ gT := gT_1 (i := 118) rfl rfl
set_option maxRecDepth 20000 in
theorem gw1_120 : (Cond.lays "GrassBridge$Breaks" "GrassBridge$Breaks" "count" "I") ∈ gT := gT_1 (i := 120) rfl rfl
set_option maxRecDepth 20000 in
theorem gw1_123 : (Cond.classLink "GrassBridge" (48 : Nat) "GrassBridge$Work") ∈ gT := gT_1 (i := 123) rfl rfl
set_option maxRecDepth 20000 in
theorem gw1_124 : (Cond.instantiable "GrassBridge$Work" (7 : Nat)) ∈ gT := gT_1 (i := 124) rfl rfl
set_option maxRecDepth 20000 in
theorem gw1_126 : (Cond.instanceMethod ⟨"GrassBridge$Work", "<init>", "()V"⟩) ∈ gT := gT_1 (i := 126) rfl rfl
set_option maxRecDepth 20000 in
theorem gw1_127 : (Cond.code ⟨"GrassBridge$Work", "<init>", "()V"⟩ prog_12_method_1_code (1 : Nat) (Option.none : Option FieldType)) ∈ gT := gT_1 (i := 127) rfl rfl
set_option maxRecDepth 20000 in
theorem gw1_128 : (Cond.methodLink "GrassBridge$Work" (3 : Nat) ⟨"java/lang/Object", "<init>", "()V"⟩) ∈ gT := gT_1 (i := 128) rfl rfl
set_option maxRecDepth 20000 in
theorem gw1_129 : (Cond.fieldLink "GrassBridge$Work" (9 : Nat) "GrassBridge$Work" "kinds" "[I") ∈ gT := gT_1 (i := 129) rfl rfl
set_option maxRecDepth 20000 in
theorem gw1_130 : (Cond.fieldLink "GrassBridge$Planner" (77 : Nat) "GrassBridge$Work" "kinds" "[I") ∈ gT := gT_1 (i := 130) rfl rfl
set_option maxRecDepth 20000 in
theorem gw1_131 : (Cond.fieldLink "GrassBridge$Work" (15 : Nat) "GrassBridge$Work" "places" "[I") ∈ gT := gT_1 (i := 131) rfl rfl
set_option maxRecDepth 20000 in
theorem gw1_132 : (Cond.fieldLink "GrassBridge$Planner" (80 : Nat) "GrassBridge$Work" "places" "[I") ∈ gT := gT_1 (i := 132) rfl rfl
set_option maxRecDepth 20000 in
theorem gw1_133 : (Cond.fieldLink "GrassBridge$Work" (18 : Nat) "GrassBridge$Work" "days" "[I") ∈ gT := gT_1 (i := 133) rfl rfl
set_option maxRecDepth 20000 in
theorem gw1_134 : (Cond.fieldLink "GrassBridge$Planner" (86 : Nat) "GrassBridge$Work" "days" "[I") ∈ gT := gT_1 (i := 134) rfl rfl
set_option maxRecDepth 20000 in
theorem gw1_135 : (Cond.fieldLink "GrassBridge$Work" (21 : Nat) "GrassBridge$Work" "hands" "[I") ∈ gT := gT_1 (i := 135) rfl rfl
set_option maxRecDepth 20000 in
theorem gw1_136 : (Cond.fieldLink "GrassBridge$Planner" (83 : Nat) "GrassBridge$Work" "hands" "[I") ∈ gT := gT_1 (i := 136) rfl rfl
set_option maxRecDepth 20000 in
theorem gw1_137 : (Cond.fieldLink "GrassBridge$Work" (24 : Nat) "GrassBridge$Work" "afters" "[I") ∈ gT := gT_1 (i := 137) rfl rfl
set_option maxRecDepth 20000 in
theorem gw1_138 : (Cond.fieldLink "GrassBridge$Planner" (113 : Nat) "GrassBridge$Work" "afters" "[I") ∈ gT := gT_1 (i := 138) rfl rfl
set_option maxRecDepth 20000 in
theorem gw1_139 : (Cond.fieldLink "GrassBridge$Work" (27 : Nat) "GrassBridge$Work" "count" "I") ∈ gT := gT_1 (i := 139) rfl rfl
set_option maxRecDepth 20000 in
theorem gw1_140 : (Cond.fieldLink "GrassBridge$Planner" (54 : Nat) "GrassBridge$Work" "count" "I") ∈ gT := gT_1 (i := 140) rfl rfl
set_option maxRecDepth 20000 in
theorem gw1_141 : (Cond.fieldLink "GrassBridge" (258 : Nat) "GrassBridge$Work" "count" "I") ∈ gT := gT_1 (i := 141) rfl rfl
set_option maxRecDepth 20000 in
theorem gw1_142 : (Cond.fieldLink "GrassBridge$Work" (31 : Nat) "GrassBridge$Work" "changes" "I") ∈ gT := gT_1 (i := 142) rfl rfl
set_option maxRecDepth 20000 in
theorem gw1_143 : (Cond.fieldLink "GrassBridge$Planner" (59 : Nat) "GrassBridge$Work" "changes" "I") ∈ gT := gT_1 (i := 143) rfl rfl
set_option maxRecDepth 20000 in
theorem gw1_144 : (Cond.laysFinal "GrassBridge$Work" "GrassBridge$Work" "kinds" "[I") ∈ gT := gT_1 (i := 144) rfl rfl
set_option maxRecDepth 20000 in
theorem gw1_146 : (Cond.laysFinal "GrassBridge$Work" "GrassBridge$Work" "places" "[I") ∈ gT := gT_1 (i := 146) rfl rfl
set_option maxRecDepth 20000 in
theorem gw1_148 : (Cond.laysFinal "GrassBridge$Work" "GrassBridge$Work" "days" "[I") ∈ gT := gT_1 (i := 148) rfl rfl
set_option maxRecDepth 20000 in
theorem gw1_150 : (Cond.laysFinal "GrassBridge$Work" "GrassBridge$Work" "hands" "[I") ∈ gT := gT_1 (i := 150) rfl rfl
set_option maxRecDepth 20000 in
theorem gw1_152 : (Cond.laysFinal "GrassBridge$Work" "GrassBridge$Work" "afters" "[I") ∈ gT := gT_1 (i := 152) rfl rfl
set_option maxRecDepth 20000 in
theorem gw1_154 : (Cond.lays "GrassBridge$Work" "GrassBridge$Work" "count" "I") ∈ gT := gT_1 (i := 154) rfl rfl
set_option maxRecDepth 20000 in
theorem gw1_156 : (Cond.lays "GrassBridge$Work" "GrassBridge$Work" "changes" "I") ∈ gT := gT_1 (i := 156) rfl rfl
set_option maxRecDepth 20000 in
theorem gw1_159 : (Cond.classLink "GrassBridge" (55 : Nat) "GrassBridge$Planner") ∈ gT := gT_1 (i := 159) rfl rfl
set_option maxRecDepth 20000 in
theorem gw1_160 : (Cond.instantiable "GrassBridge$Planner" (15 : Nat)) ∈ gT := gT_1 (i := 160) rfl rfl
set_option maxRecDepth 20000 in
theorem gw1_161 : (Cond.methodLink "GrassBridge" (57 : Nat) ⟨"GrassBridge$Planner", "<init>", "(LGrassBridge$Work;)V"⟩) ∈ gT := gT_1 (i := 161) rfl rfl
set_option maxRecDepth 20000 in
theorem gw1_162 : (Cond.instanceMethod ⟨"GrassBridge$Planner", "<init>", "(LGrassBridge$Work;)V"⟩) ∈ gT := gT_1 (i := 162) rfl rfl
set_option maxRecDepth 20000 in
theorem gw1_163 : (Cond.code ⟨"GrassBridge$Planner", "<init>", "(LGrassBridge$Work;)V"⟩ prog_7_method_1_code (2 : Nat) (Option.none : Option FieldType)) ∈ gT := gT_1 (i := 163) rfl rfl
set_option maxRecDepth 20000 in
theorem gw1_164 : (Cond.methodLink "GrassBridge$Planner" (3 : Nat) ⟨"java/lang/Object", "<init>", "()V"⟩) ∈ gT := gT_1 (i := 164) rfl rfl
set_option maxRecDepth 20000 in
theorem gw1_165 : (Cond.fieldLink "GrassBridge$Planner" (46 : Nat) "GrassBridge$Planner" "work" "LGrassBridge$Work;") ∈ gT := gT_1 (i := 165) rfl rfl
set_option maxRecDepth 20000 in
theorem gw1_166 : (Cond.fieldLink "GrassBridge$Planner" (11 : Nat) "GrassBridge$Planner" "hung" "[I") ∈ gT := gT_1 (i := 166) rfl rfl
set_option maxRecDepth 20000 in
theorem gw1_167 : (Cond.fieldLink "GrassBridge$Planner" (15 : Nat) "GrassBridge$Planner" "handsTogether" "[I") ∈ gT := gT_1 (i := 167) rfl rfl
set_option maxRecDepth 20000 in
theorem gw1_168 : (Cond.fieldLink "GrassBridge$Planner" (18 : Nat) "GrassBridge$Planner" "longest" "[I") ∈ gT := gT_1 (i := 168) rfl rfl
set_option maxRecDepth 20000 in
theorem gw1_169 : (Cond.fieldLink "GrassBridge$Planner" (21 : Nat) "GrassBridge$Planner" "rest" "[I") ∈ gT := gT_1 (i := 169) rfl rfl
set_option maxRecDepth 20000 in
theorem gw1_170 : (Cond.fieldLink "GrassBridge$Planner" (24 : Nat) "GrassBridge$Planner" "open" "[I") ∈ gT := gT_1 (i := 170) rfl rfl
set_option maxRecDepth 20000 in
theorem gw1_171 : (Cond.fieldLink "GrassBridge$Planner" (27 : Nat) "GrassBridge$Planner" "row" "[I") ∈ gT := gT_1 (i := 171) rfl rfl
set_option maxRecDepth 20000 in
theorem gw1_172 : (Cond.fieldLink "GrassBridge$Planner" (30 : Nat) "GrassBridge$Planner" "done" "[I") ∈ gT := gT_1 (i := 172) rfl rfl
set_option maxRecDepth 20000 in
theorem gw1_173 : (Cond.fieldLink "GrassBridge$Planner" (33 : Nat) "GrassBridge$Planner" "spent" "[I") ∈ gT := gT_1 (i := 173) rfl rfl
set_option maxRecDepth 20000 in
theorem gw1_174 : (Cond.fieldLink "GrassBridge$Planner" (51 : Nat) "GrassBridge$Planner" "steps" "I") ∈ gT := gT_1 (i := 174) rfl rfl
set_option maxRecDepth 20000 in
theorem gw1_175 : (Cond.fieldLink "GrassBridge$Planner" (71 : Nat) "GrassBridge$Planner" "leads" "I") ∈ gT := gT_1 (i := 175) rfl rfl
set_option maxRecDepth 20000 in
theorem gw1_176 : (Cond.fieldLink "GrassBridge$Planner" (74 : Nat) "GrassBridge$Planner" "tunes" "I") ∈ gT := gT_1 (i := 176) rfl rfl
set_option maxRecDepth 20000 in
theorem gw1_177 : (Cond.fieldLink "GrassBridge$Planner" (36 : Nat) "GrassBridge$Planner" "seenHung" "I") ∈ gT := gT_1 (i := 177) rfl rfl
set_option maxRecDepth 20000 in
theorem gw1_178 : (Cond.fieldLink "GrassBridge$Planner" (40 : Nat) "GrassBridge$Planner" "seenHands" "I") ∈ gT := gT_1 (i := 178) rfl rfl
set_option maxRecDepth 20000 in
theorem gw1_179 : (Cond.fieldLink "GrassBridge$Planner" (43 : Nat) "GrassBridge$Planner" "seenChanges" "I") ∈ gT := gT_1 (i := 179) rfl rfl
set_option maxRecDepth 20000 in
theorem gw1_180 : (Cond.laysFinal "GrassBridge$Planner" "GrassBridge$Planner" "work" "LGrassBridge$Work;") ∈ gT := gT_1 (i := 180) rfl rfl
set_option maxRecDepth 20000 in
theorem gw1_182 : (Cond.laysFinal "GrassBridge$Planner" "GrassBridge$Planner" "hung" "[I") ∈ gT := gT_1 (i := 182) rfl rfl
set_option maxRecDepth 20000 in
theorem gw1_184 : (Cond.laysFinal "GrassBridge$Planner" "GrassBridge$Planner" "handsTogether" "[I") ∈ gT := gT_1 (i := 184) rfl rfl
set_option maxRecDepth 20000 in
theorem gw1_186 : (Cond.laysFinal "GrassBridge$Planner" "GrassBridge$Planner" "longest" "[I") ∈ gT := gT_1 (i := 186) rfl rfl
set_option maxRecDepth 20000 in
theorem gw1_188 : (Cond.laysFinal "GrassBridge$Planner" "GrassBridge$Planner" "rest" "[I") ∈ gT := gT_1 (i := 188) rfl rfl
set_option maxRecDepth 20000 in
theorem gw1_190 : (Cond.laysFinal "GrassBridge$Planner" "GrassBridge$Planner" "open" "[I") ∈ gT := gT_1 (i := 190) rfl rfl
set_option maxRecDepth 20000 in
theorem gw1_192 : (Cond.laysFinal "GrassBridge$Planner" "GrassBridge$Planner" "row" "[I") ∈ gT := gT_1 (i := 192) rfl rfl
set_option maxRecDepth 20000 in
theorem gw1_194 : (Cond.laysFinal "GrassBridge$Planner" "GrassBridge$Planner" "done" "[I") ∈ gT := gT_1 (i := 194) rfl rfl
set_option maxRecDepth 20000 in
theorem gw1_196 : (Cond.laysFinal "GrassBridge$Planner" "GrassBridge$Planner" "spent" "[I") ∈ gT := gT_1 (i := 196) rfl rfl
set_option maxRecDepth 20000 in
theorem gw1_198 : (Cond.lays "GrassBridge$Planner" "GrassBridge$Planner" "steps" "I") ∈ gT := gT_1 (i := 198) rfl rfl
set_option maxRecDepth 20000 in
theorem gw1_200 : (Cond.lays "GrassBridge$Planner" "GrassBridge$Planner" "leads" "I") ∈ gT := gT_1 (i := 200) rfl rfl
set_option maxRecDepth 20000 in
theorem gw1_202 : (Cond.lays "GrassBridge$Planner" "GrassBridge$Planner" "tunes" "I") ∈ gT := gT_1 (i := 202) rfl rfl
set_option maxRecDepth 20000 in
theorem gw1_204 : (Cond.lays "GrassBridge$Planner" "GrassBridge$Planner" "seenHung" "I") ∈ gT := gT_1 (i := 204) rfl rfl
set_option maxRecDepth 20000 in
theorem gw1_206 : (Cond.lays "GrassBridge$Planner" "GrassBridge$Planner" "seenHands" "I") ∈ gT := gT_1 (i := 206) rfl rfl
set_option maxRecDepth 20000 in
theorem gw1_208 : (Cond.lays "GrassBridge$Planner" "GrassBridge$Planner" "seenChanges" "I") ∈ gT := gT_1 (i := 208) rfl rfl
set_option maxRecDepth 20000 in
theorem gw1_211 : (Cond.classLink "GrassBridge" (64 : Nat) "GrassBridge$People") ∈ gT := gT_1 (i := 211) rfl rfl
set_option maxRecDepth 20000 in
theorem gw1_212 : (Cond.instantiable "GrassBridge$People" (5 : Nat)) ∈ gT := gT_1 (i := 212) rfl rfl
set_option maxRecDepth 20000 in
theorem gw1_214 : (Cond.instanceMethod ⟨"GrassBridge$People", "<init>", "()V"⟩) ∈ gT := gT_1 (i := 214) rfl rfl
set_option maxRecDepth 20000 in
theorem gw1_215 : (Cond.code ⟨"GrassBridge$People", "<init>", "()V"⟩ prog_6_method_1_code (1 : Nat) (Option.none : Option FieldType)) ∈ gT := gT_1 (i := 215) rfl rfl
set_option maxRecDepth 20000 in
theorem gw1_216 : (Cond.methodLink "GrassBridge$People" (3 : Nat) ⟨"java/lang/Object", "<init>", "()V"⟩) ∈ gT := gT_1 (i := 216) rfl rfl
set_option maxRecDepth 20000 in
theorem gw1_217 : (Cond.fieldLink "GrassBridge$People" (9 : Nat) "GrassBridge$People" "parents" "[I") ∈ gT := gT_1 (i := 217) rfl rfl
set_option maxRecDepth 20000 in
theorem gw1_218 : (Cond.fieldLink "GrassBridge$People" (15 : Nat) "GrassBridge$People" "births" "[I") ∈ gT := gT_1 (i := 218) rfl rfl
set_option maxRecDepth 20000 in
theorem gw1_219 : (Cond.fieldLink "GrassBridge$People" (18 : Nat) "GrassBridge$People" "living" "[Z") ∈ gT := gT_1 (i := 219) rfl rfl
set_option maxRecDepth 20000 in
theorem gw1_220 : (Cond.fieldLink "GrassBridge$People" (22 : Nat) "GrassBridge$People" "ranks" "[I") ∈ gT := gT_1 (i := 220) rfl rfl
set_option maxRecDepth 20000 in
theorem gw1_221 : (Cond.fieldLink "GrassBridge$People" (25 : Nat) "GrassBridge$People" "count" "I") ∈ gT := gT_1 (i := 221) rfl rfl
set_option maxRecDepth 20000 in
theorem gw1_222 : (Cond.fieldLink "GrassBridge" (284 : Nat) "GrassBridge$People" "count" "I") ∈ gT := gT_1 (i := 222) rfl rfl
set_option maxRecDepth 20000 in
theorem gw1_223 : (Cond.laysFinal "GrassBridge$People" "GrassBridge$People" "parents" "[I") ∈ gT := gT_1 (i := 223) rfl rfl
set_option maxRecDepth 20000 in
theorem gw1_225 : (Cond.laysFinal "GrassBridge$People" "GrassBridge$People" "births" "[I") ∈ gT := gT_1 (i := 225) rfl rfl
set_option maxRecDepth 20000 in
theorem gw1_227 : (Cond.laysFinal "GrassBridge$People" "GrassBridge$People" "living" "[Z") ∈ gT := gT_1 (i := 227) rfl rfl
set_option maxRecDepth 20000 in
theorem gw1_229 : (Cond.laysFinal "GrassBridge$People" "GrassBridge$People" "ranks" "[I") ∈ gT := gT_1 (i := 229) rfl rfl
set_option maxRecDepth 20000 in
theorem gw1_231 : (Cond.lays "GrassBridge$People" "GrassBridge$People" "count" "I") ∈ gT := gT_1 (i := 231) rfl rfl
set_option maxRecDepth 20000 in
theorem gw1_234 : (Cond.arrayClass FieldType.boolean) ∈ gT := gT_1 (i := 234) rfl rfl
set_option maxRecDepth 20000 in
theorem gw1_235 : (Cond.fieldLink "GrassBridge" (7 : Nat) "GrassBridge" "refusals" "[I") ∈ gT := gT_1 (i := 235) rfl rfl
set_option maxRecDepth 20000 in
theorem gw1_236 : (Cond.fieldLink "GrassBridge" (16 : Nat) "GrassBridge" "season" "LGrassBridge$Season;") ∈ gT := gT_1 (i := 236) rfl rfl
set_option maxRecDepth 20000 in
theorem gw1_237 : (Cond.fieldLink "GrassBridge" (23 : Nat) "GrassBridge" "houses" "LGrassBridge$Houses;") ∈ gT := gT_1 (i := 237) rfl rfl
set_option maxRecDepth 20000 in
theorem gw1_238 : (Cond.fieldLink "GrassBridge" (30 : Nat) "GrassBridge" "yard" "LGrassBridge$RopeYard;") ∈ gT := gT_1 (i := 238) rfl rfl
set_option maxRecDepth 20000 in
theorem gw1_239 : (Cond.fieldLink "GrassBridge" (37 : Nat) "GrassBridge" "span" "LGrassBridge$Span;") ∈ gT := gT_1 (i := 239) rfl rfl
set_option maxRecDepth 20000 in
theorem gw2_0 : (Cond.fieldLink "GrassBridge" (44 : Nat) "GrassBridge" "breaks" "LGrassBridge$Breaks;") ∈ gT := gT_2 (i := 0) rfl rfl
set_option maxRecDepth 20000 in
theorem gw2_1 : (Cond.fieldLink "GrassBridge" (51 : Nat) "GrassBridge" "work" "LGrassBridge$Work;") ∈ gT := gT_2 (i := 1) rfl rfl
set_option maxRecDepth 20000 in
theorem gw2_2 : (Cond.fieldLink "GrassBridge" (60 : Nat) "GrassBridge" "planner" "LGrassBridge$Planner;") ∈ gT := gT_2 (i := 2) rfl rfl
set_option maxRecDepth 20000 in
theorem gw2_3 : (Cond.fieldLink "GrassBridge" (67 : Nat) "GrassBridge" "people" "LGrassBridge$People;") ∈ gT := gT_2 (i := 3) rfl rfl
set_option maxRecDepth 20000 in
theorem gw2_4 : (Cond.laysFinal "GrassBridge" "GrassBridge" "refusals" "[I") ∈ gT := gT_2 (i := 4) rfl rfl
set_option maxRecDepth 20000 in
theorem gw2_6 : (Cond.laysFinal "GrassBridge" "GrassBridge" "season" "LGrassBridge$Season;") ∈ gT := gT_2 (i := 6) rfl rfl
set_option maxRecDepth 20000 in
theorem gw2_8 : (Cond.laysFinal "GrassBridge" "GrassBridge" "houses" "LGrassBridge$Houses;") ∈ gT := gT_2 (i := 8) rfl rfl
set_option maxRecDepth 20000 in
theorem gw2_10 : (Cond.laysFinal "GrassBridge" "GrassBridge" "yard" "LGrassBridge$RopeYard;") ∈ gT := gT_2 (i := 10) rfl rfl
set_option maxRecDepth 20000 in
theorem gw2_12 : (Cond.laysFinal "GrassBridge" "GrassBridge" "span" "LGrassBridge$Span;") ∈ gT := gT_2 (i := 12) rfl rfl
set_option maxRecDepth 20000 in
theorem gw2_14 : (Cond.laysFinal "GrassBridge" "GrassBridge" "breaks" "LGrassBridge$Breaks;") ∈ gT := gT_2 (i := 14) rfl rfl
set_option maxRecDepth 20000 in
theorem gw2_16 : (Cond.laysFinal "GrassBridge" "GrassBridge" "work" "LGrassBridge$Work;") ∈ gT := gT_2 (i := 16) rfl rfl
set_option maxRecDepth 20000 in
theorem gw2_18 : (Cond.laysFinal "GrassBridge" "GrassBridge" "planner" "LGrassBridge$Planner;") ∈ gT := gT_2 (i := 18) rfl rfl
set_option maxRecDepth 20000 in
theorem gw2_20 : (Cond.laysFinal "GrassBridge" "GrassBridge" "people" "LGrassBridge$People;") ∈ gT := gT_2 (i := 20) rfl rfl
set_option maxRecDepth 20000 in
theorem gw2_23 : (Cond.methodLink "GrassBridgeLaw" (13 : Nat) ⟨"GrassBridge", "rain", "(II)I"⟩) ∈ gT := gT_2 (i := 23) rfl rfl
set_option maxRecDepth 20000 in
theorem gw2_24 : (Cond.instanceMethod ⟨"GrassBridge", "rain", "(II)I"⟩) ∈ gT := gT_2 (i := 24) rfl rfl
set_option maxRecDepth 20000 in
theorem gw2_25 : (Cond.selects "GrassBridge" ⟨"GrassBridge", "rain", "(II)I"⟩ ⟨"GrassBridge", "rain", "(II)I"⟩) ∈ gT := gT_2 (i := 25) rfl rfl
set_option maxRecDepth 20000 in
theorem gw2_26 : (Cond.code ⟨"GrassBridge", "rain", "(II)I"⟩ prog_1_method_6_code (4 : Nat) (Option.some FieldType.int)) ∈ gT := gT_2 (i := 26) rfl rfl
set_option maxRecDepth 20000 in
theorem gw2_27 : (Cond.methodLink "GrassBridge" (76 : Nat) ⟨"GrassBridge$Season", "isWeek", "(I)Z"⟩) ∈ gT := gT_2 (i := 27) rfl rfl
set_option maxRecDepth 20000 in
theorem gw2_28 : (Cond.static ⟨"GrassBridge$Season", "isWeek", "(I)Z"⟩) ∈ gT := gT_2 (i := 28) rfl rfl
set_option maxRecDepth 20000 in
theorem gw2_29 : (Cond.code ⟨"GrassBridge$Season", "isWeek", "(I)Z"⟩ prog_10_method_2_code (1 : Nat) (Option.some FieldType.boolean)) ∈ gT := gT_2 (i := 29) rfl rfl
set_option maxRecDepth 20000 in
theorem gw2_30 : (Cond.methodLink "GrassBridge" (80 : Nat) ⟨"GrassBridge", "refuseAsTold", "(I)I"⟩) ∈ gT := gT_2 (i := 30) rfl rfl
set_option maxRecDepth 20000 in
theorem gw2_32 : (Cond.instanceMethod ⟨"GrassBridge", "refuseAsTold", "(I)I"⟩) ∈ gT := gT_2 (i := 32) rfl rfl
set_option maxRecDepth 20000 in
theorem gw2_33 : (Cond.code ⟨"GrassBridge", "refuseAsTold", "(I)I"⟩ prog_1_method_3_code (2 : Nat) (Option.some FieldType.int)) ∈ gT := gT_2 (i := 33) rfl rfl
set_option maxRecDepth 20000 in
theorem gw2_34 : (Cond.constant "GrassBridge" (71 : Nat) (1000000000 : Int32)) ∈ gT := gT_2 (i := 34) rfl rfl
set_option maxRecDepth 20000 in
theorem gw2_35 : (Cond.methodLink "GrassBridge" (72 : Nat) ⟨"GrassBridge", "refuse", "(I)I"⟩) ∈ gT := gT_2 (i := 35) rfl rfl
set_option maxRecDepth 20000 in
theorem gw2_37 : (Cond.instanceMethod ⟨"GrassBridge", "refuse", "(I)I"⟩) ∈ gT := gT_2 (i := 37) rfl rfl
set_option maxRecDepth 20000 in
theorem gw2_38 : (Cond.code ⟨"GrassBridge", "refuse", "(I)I"⟩ prog_1_method_2_code (2 : Nat) (Option.some FieldType.int)) ∈ gT := gT_2 (i := 38) rfl rfl
set_option maxRecDepth 20000 in
theorem gw2_39 : (Cond.methodLink "GrassBridge" (83 : Nat) ⟨"GrassBridge", "misfit", "(III)I"⟩) ∈ gT := gT_2 (i := 39) rfl rfl
set_option maxRecDepth 20000 in
theorem gw2_40 : (Cond.static ⟨"GrassBridge", "misfit", "(III)I"⟩) ∈ gT := gT_2 (i := 40) rfl rfl
set_option maxRecDepth 20000 in
theorem gw2_41 : (Cond.code ⟨"GrassBridge", "misfit", "(III)I"⟩ prog_1_method_4_code (3 : Nat) (Option.some FieldType.int)) ∈ gT := gT_2 (i := 41) rfl rfl
set_option maxRecDepth 20000 in
theorem gw2_42 : (Cond.methodLink "GrassBridge" (87 : Nat) ⟨"GrassBridge$Season", "tell", "(II)I"⟩) ∈ gT := gT_2 (i := 42) rfl rfl
set_option maxRecDepth 20000 in
theorem gw2_43 : (Cond.instanceMethod ⟨"GrassBridge$Season", "tell", "(II)I"⟩) ∈ gT := gT_2 (i := 43) rfl rfl
set_option maxRecDepth 20000 in
theorem gw2_44 : (Cond.selects "GrassBridge$Season" ⟨"GrassBridge$Season", "tell", "(II)I"⟩ ⟨"GrassBridge$Season", "tell", "(II)I"⟩) ∈ gT := gT_2 (i := 44) rfl rfl
set_option maxRecDepth 20000 in
theorem gw2_45 : (Cond.code ⟨"GrassBridge$Season", "tell", "(II)I"⟩ prog_10_method_4_code (4 : Nat) (Option.some FieldType.int)) ∈ gT := gT_2 (i := 45) rfl rfl
set_option maxRecDepth 20000 in
theorem gw2_46 : (Cond.methodLink "GrassBridge$Season" (18 : Nat) ⟨"GrassBridge$Season", "isWeek", "(I)Z"⟩) ∈ gT := gT_2 (i := 46) rfl rfl
set_option maxRecDepth 20000 in
theorem gw2_47 : (Cond.methodLink "GrassBridgeLaw" (18 : Nat) ⟨"GrassBridge", "rainOf", "(I)I"⟩) ∈ gT := gT_2 (i := 47) rfl rfl
set_option maxRecDepth 20000 in
theorem gw2_48 : (Cond.instanceMethod ⟨"GrassBridge", "rainOf", "(I)I"⟩) ∈ gT := gT_2 (i := 48) rfl rfl
set_option maxRecDepth 20000 in
theorem gw2_49 : (Cond.selects "GrassBridge" ⟨"GrassBridge", "rainOf", "(I)I"⟩ ⟨"GrassBridge", "rainOf", "(I)I"⟩) ∈ gT := gT_2 (i := 49) rfl rfl
set_option maxRecDepth 20000 in
theorem gw2_50 : (Cond.code ⟨"GrassBridge", "rainOf", "(I)I"⟩ prog_1_method_7_code (2 : Nat) (Option.some FieldType.int)) ∈ gT := gT_2 (i := 50) rfl rfl
set_option maxRecDepth 20000 in
theorem gw2_51 : (Cond.methodLink "GrassBridge" (91 : Nat) ⟨"GrassBridge$Season", "counted", "(I)I"⟩) ∈ gT := gT_2 (i := 51) rfl rfl
set_option maxRecDepth 20000 in
theorem gw2_52 : (Cond.instanceMethod ⟨"GrassBridge$Season", "counted", "(I)I"⟩) ∈ gT := gT_2 (i := 52) rfl rfl
set_option maxRecDepth 20000 in
theorem gw2_53 : (Cond.selects "GrassBridge$Season" ⟨"GrassBridge$Season", "counted", "(I)I"⟩ ⟨"GrassBridge$Season", "counted", "(I)I"⟩) ∈ gT := gT_2 (i := 53) rfl rfl
set_option maxRecDepth 20000 in
theorem gw2_54 : (Cond.code ⟨"GrassBridge$Season", "counted", "(I)I"⟩ prog_10_method_5_code (5 : Nat) (Option.some FieldType.int)) ∈ gT := gT_2 (i := 54) rfl rfl
set_option maxRecDepth 20000 in
theorem gw2_55 : (Cond.methodLink "GrassBridge$Season" (22 : Nat) ⟨"java/lang/Math", "max", "(II)I"⟩) ∈ gT := gT_2 (i := 55) rfl rfl
set_option maxRecDepth 20000 in
theorem gw2_56 : (Cond.static ⟨"java/lang/Math", "max", "(II)I"⟩) ∈ gT := gT_2 (i := 56) rfl rfl
set_option maxRecDepth 20000 in
theorem gw2_57 : (Cond.code ⟨"java/lang/Math", "max", "(II)I"⟩ prog_16_method_65_code (2 : Nat) (Option.some FieldType.int)) ∈ gT := gT_2 (i := 57) rfl rfl
set_option maxRecDepth 20000 in
theorem gw2_58 : (Cond.methodLink "GrassBridgeLaw" (52 : Nat) ⟨"GrassBridge", "close", "()I"⟩) ∈ gT := gT_2 (i := 58) rfl rfl
set_option maxRecDepth 20000 in
theorem gw2_59 : (Cond.instanceMethod ⟨"GrassBridge", "close", "()I"⟩) ∈ gT := gT_2 (i := 59) rfl rfl
set_option maxRecDepth 20000 in
theorem gw2_60 : (Cond.selects "GrassBridge" ⟨"GrassBridge", "close", "()I"⟩ ⟨"GrassBridge", "close", "()I"⟩) ∈ gT := gT_2 (i := 60) rfl rfl
set_option maxRecDepth 20000 in
theorem gw2_61 : (Cond.code ⟨"GrassBridge", "close", "()I"⟩ prog_1_method_8_code (1 : Nat) (Option.some FieldType.int)) ∈ gT := gT_2 (i := 61) rfl rfl
set_option maxRecDepth 20000 in
theorem gw2_62 : (Cond.methodLink "GrassBridge" (98 : Nat) ⟨"GrassBridge$Houses", "settle", "()V"⟩) ∈ gT := gT_2 (i := 62) rfl rfl
set_option maxRecDepth 20000 in
theorem gw2_63 : (Cond.instanceMethod ⟨"GrassBridge$Houses", "settle", "()V"⟩) ∈ gT := gT_2 (i := 63) rfl rfl
set_option maxRecDepth 20000 in
theorem gw2_64 : (Cond.selects "GrassBridge$Houses" ⟨"GrassBridge$Houses", "settle", "()V"⟩ ⟨"GrassBridge$Houses", "settle", "()V"⟩) ∈ gT := gT_2 (i := 64) rfl rfl
set_option maxRecDepth 20000 in
theorem gw2_65 : (Cond.code ⟨"GrassBridge$Houses", "settle", "()V"⟩ prog_5_method_8_code (2 : Nat) (Option.none : Option FieldType)) ∈ gT := gT_2 (i := 65) rfl rfl
set_option maxRecDepth 20000 in
theorem gw2_66 : (Cond.methodLink "GrassBridge$Houses" (59 : Nat) ⟨"GrassBridge$Houses", "shareOf", "(LGrassBridge$House;)I"⟩) ∈ gT := gT_2 (i := 66) rfl rfl
set_option maxRecDepth 20000 in
theorem gw2_67 : (Cond.instanceMethod ⟨"GrassBridge$Houses", "shareOf", "(LGrassBridge$House;)I"⟩) ∈ gT := gT_2 (i := 67) rfl rfl
set_option maxRecDepth 20000 in
theorem gw2_68 : (Cond.selects "GrassBridge$Houses" ⟨"GrassBridge$Houses", "shareOf", "(LGrassBridge$House;)I"⟩ ⟨"GrassBridge$Houses", "shareOf", "(LGrassBridge$House;)I"⟩) ∈ gT := gT_2 (i := 68) rfl rfl
set_option maxRecDepth 20000 in
theorem gw2_69 : (Cond.code ⟨"GrassBridge$Houses", "shareOf", "(LGrassBridge$House;)I"⟩ prog_5_method_6_code (7 : Nat) (Option.some FieldType.int)) ∈ gT := gT_2 (i := 69) rfl rfl
set_option maxRecDepth 20000 in
theorem gw2_70 : (Cond.methodLink "GrassBridge$Houses" (42 : Nat) ⟨"GrassBridge$Houses", "handsHere", "()I"⟩) ∈ gT := gT_2 (i := 70) rfl rfl
set_option maxRecDepth 20000 in
theorem gw2_71 : (Cond.instanceMethod ⟨"GrassBridge$Houses", "handsHere", "()I"⟩) ∈ gT := gT_2 (i := 71) rfl rfl
set_option maxRecDepth 20000 in
theorem gw2_72 : (Cond.selects "GrassBridge$Houses" ⟨"GrassBridge$Houses", "handsHere", "()I"⟩ ⟨"GrassBridge$Houses", "handsHere", "()I"⟩) ∈ gT := gT_2 (i := 72) rfl rfl
set_option maxRecDepth 20000 in
theorem gw2_73 : (Cond.code ⟨"GrassBridge$Houses", "handsHere", "()I"⟩ prog_5_method_4_code (3 : Nat) (Option.some FieldType.int)) ∈ gT := gT_2 (i := 73) rfl rfl
set_option maxRecDepth 20000 in
theorem gw2_74 : (Cond.methodLink "GrassBridge$Houses" (49 : Nat) ⟨"GrassBridge$Houses", "goesAhead", "(LGrassBridge$House;LGrassBridge$House;)Z"⟩) ∈ gT := gT_2 (i := 74) rfl rfl
set_option maxRecDepth 20000 in
theorem gw2_75 : (Cond.static ⟨"GrassBridge$Houses", "goesAhead", "(LGrassBridge$House;LGrassBridge$House;)Z"⟩) ∈ gT := gT_2 (i := 75) rfl rfl
set_option maxRecDepth 20000 in
theorem gw2_76 : (Cond.code ⟨"GrassBridge$Houses", "goesAhead", "(LGrassBridge$House;LGrassBridge$House;)Z"⟩ prog_5_method_7_code (2 : Nat) (Option.some FieldType.boolean)) ∈ gT := gT_2 (i := 76) rfl rfl
set_option maxRecDepth 20000 in
theorem gw2_77 : (Cond.methodLink "GrassBridge$Houses" (66 : Nat) ⟨"GrassBridge$House", "beginYear", "()V"⟩) ∈ gT := gT_2 (i := 77) rfl rfl
set_option maxRecDepth 20000 in
theorem gw2_78 : (Cond.instanceMethod ⟨"GrassBridge$House", "beginYear", "()V"⟩) ∈ gT := gT_2 (i := 78) rfl rfl
set_option maxRecDepth 20000 in
theorem gw2_79 : (Cond.selects "GrassBridge$House" ⟨"GrassBridge$House", "beginYear", "()V"⟩ ⟨"GrassBridge$House", "beginYear", "()V"⟩) ∈ gT := gT_2 (i := 79) rfl rfl
set_option maxRecDepth 20000 in
theorem gw2_80 : (Cond.code ⟨"GrassBridge$House", "beginYear", "()V"⟩ prog_4_method_5_code (1 : Nat) (Option.none : Option FieldType)) ∈ gT := gT_2 (i := 80) rfl rfl
set_option maxRecDepth 20000 in
theorem gw2_81 : (Cond.methodLink "GrassBridge" (101 : Nat) ⟨"GrassBridge$Season", "turn", "()V"⟩) ∈ gT := gT_2 (i := 81) rfl rfl
set_option maxRecDepth 20000 in
theorem gw2_82 : (Cond.instanceMethod ⟨"GrassBridge$Season", "turn", "()V"⟩) ∈ gT := gT_2 (i := 82) rfl rfl
set_option maxRecDepth 20000 in
theorem gw2_83 : (Cond.selects "GrassBridge$Season" ⟨"GrassBridge$Season", "turn", "()V"⟩ ⟨"GrassBridge$Season", "turn", "()V"⟩) ∈ gT := gT_2 (i := 83) rfl rfl
set_option maxRecDepth 20000 in
theorem gw2_84 : (Cond.code ⟨"GrassBridge$Season", "turn", "()V"⟩ prog_10_method_7_code (1 : Nat) (Option.none : Option FieldType)) ∈ gT := gT_2 (i := 84) rfl rfl
set_option maxRecDepth 20000 in
theorem gw2_85 : (Cond.methodLink "GrassBridgeLaw" (89 : Nat) ⟨"GrassBridge", "weeks", "(I)I"⟩) ∈ gT := gT_2 (i := 85) rfl rfl
set_option maxRecDepth 20000 in
theorem gw2_86 : (Cond.instanceMethod ⟨"GrassBridge", "weeks", "(I)I"⟩) ∈ gT := gT_2 (i := 86) rfl rfl
set_option maxRecDepth 20000 in
theorem gw2_87 : (Cond.selects "GrassBridge" ⟨"GrassBridge", "weeks", "(I)I"⟩ ⟨"GrassBridge", "weeks", "(I)I"⟩) ∈ gT := gT_2 (i := 87) rfl rfl
set_option maxRecDepth 20000 in
theorem gw2_88 : (Cond.code ⟨"GrassBridge", "weeks", "(I)I"⟩ prog_1_method_9_code (4 : Nat) (Option.some FieldType.int)) ∈ gT := gT_2 (i := 88) rfl rfl
set_option maxRecDepth 20000 in
theorem gw2_89 : (Cond.methodLink "GrassBridge" (107 : Nat) ⟨"GrassBridge", "passWeek", "()V"⟩) ∈ gT := gT_2 (i := 89) rfl rfl
set_option maxRecDepth 20000 in
theorem gw2_91 : (Cond.instanceMethod ⟨"GrassBridge", "passWeek", "()V"⟩) ∈ gT := gT_2 (i := 91) rfl rfl
set_option maxRecDepth 20000 in
theorem gw2_92 : (Cond.code ⟨"GrassBridge", "passWeek", "()V"⟩ prog_1_method_10_code (2 : Nat) (Option.none : Option FieldType)) ∈ gT := gT_2 (i := 92) rfl rfl
set_option maxRecDepth 20000 in
theorem gw2_93 : (Cond.methodLink "GrassBridge" (110 : Nat) ⟨"GrassBridge$Season", "wetOf", "(I)I"⟩) ∈ gT := gT_2 (i := 93) rfl rfl
set_option maxRecDepth 20000 in
theorem gw2_94 : (Cond.instanceMethod ⟨"GrassBridge$Season", "wetOf", "(I)I"⟩) ∈ gT := gT_2 (i := 94) rfl rfl
set_option maxRecDepth 20000 in
theorem gw2_95 : (Cond.selects "GrassBridge$Season" ⟨"GrassBridge$Season", "wetOf", "(I)I"⟩ ⟨"GrassBridge$Season", "wetOf", "(I)I"⟩) ∈ gT := gT_2 (i := 95) rfl rfl
set_option maxRecDepth 20000 in
theorem gw2_96 : (Cond.code ⟨"GrassBridge$Season", "wetOf", "(I)I"⟩ prog_10_method_6_code (3 : Nat) (Option.some FieldType.int)) ∈ gT := gT_2 (i := 96) rfl rfl
set_option maxRecDepth 20000 in
theorem gw2_97 : (Cond.methodLink "GrassBridge$Season" (28 : Nat) ⟨"GrassBridge$Season", "counted", "(I)I"⟩) ∈ gT := gT_2 (i := 97) rfl rfl
set_option maxRecDepth 20000 in
theorem gw2_98 : (Cond.methodLink "GrassBridge" (113 : Nat) ⟨"GrassBridge$Span", "soak", "(I)V"⟩) ∈ gT := gT_2 (i := 98) rfl rfl
set_option maxRecDepth 20000 in
theorem gw2_99 : (Cond.instanceMethod ⟨"GrassBridge$Span", "soak", "(I)V"⟩) ∈ gT := gT_2 (i := 99) rfl rfl
set_option maxRecDepth 20000 in
theorem gw2_100 : (Cond.selects "GrassBridge$Span" ⟨"GrassBridge$Span", "soak", "(I)V"⟩ ⟨"GrassBridge$Span", "soak", "(I)V"⟩) ∈ gT := gT_2 (i := 100) rfl rfl
set_option maxRecDepth 20000 in
theorem gw2_101 : (Cond.code ⟨"GrassBridge$Span", "soak", "(I)V"⟩ prog_11_method_7_code (3 : Nat) (Option.none : Option FieldType)) ∈ gT := gT_2 (i := 101) rfl rfl
set_option maxRecDepth 20000 in
theorem gw2_102 : (Cond.methodLink "GrassBridge" (117 : Nat) ⟨"GrassBridge$Span", "ropeAt", "(I)LGrassBridge$Rope;"⟩) ∈ gT := gT_2 (i := 102) rfl rfl
set_option maxRecDepth 20000 in
theorem gw2_103 : (Cond.instanceMethod ⟨"GrassBridge$Span", "ropeAt", "(I)LGrassBridge$Rope;"⟩) ∈ gT := gT_2 (i := 103) rfl rfl
set_option maxRecDepth 20000 in
theorem gw2_104 : (Cond.selects "GrassBridge$Span" ⟨"GrassBridge$Span", "ropeAt", "(I)LGrassBridge$Rope;"⟩ ⟨"GrassBridge$Span", "ropeAt", "(I)LGrassBridge$Rope;"⟩) ∈ gT := gT_2 (i := 104) rfl rfl
set_option maxRecDepth 20000 in
theorem gw2_105 : (Cond.code ⟨"GrassBridge$Span", "ropeAt", "(I)LGrassBridge$Rope;"⟩ prog_11_method_3_code (2 : Nat) (Option.some (FieldType.object "GrassBridge$Rope"))) ∈ gT := gT_2 (i := 105) rfl rfl
set_option maxRecDepth 20000 in
theorem gw2_106 : (Cond.methodLink "GrassBridge$Span" (27 : Nat) ⟨"GrassBridge$Span", "isPlace", "(I)Z"⟩) ∈ gT := gT_2 (i := 106) rfl rfl
set_option maxRecDepth 20000 in
theorem gw2_107 : (Cond.static ⟨"GrassBridge$Span", "isPlace", "(I)Z"⟩) ∈ gT := gT_2 (i := 107) rfl rfl
set_option maxRecDepth 20000 in
theorem gw2_108 : (Cond.code ⟨"GrassBridge$Span", "isPlace", "(I)Z"⟩ prog_11_method_2_code (1 : Nat) (Option.some FieldType.boolean)) ∈ gT := gT_2 (i := 108) rfl rfl
set_option maxRecDepth 20000 in
theorem gw2_109 : (Cond.methodLink "GrassBridge" (121 : Nat) ⟨"GrassBridge$Span", "strengthAt", "(III)I"⟩) ∈ gT := gT_2 (i := 109) rfl rfl
set_option maxRecDepth 20000 in
theorem gw2_110 : (Cond.instanceMethod ⟨"GrassBridge$Span", "strengthAt", "(III)I"⟩) ∈ gT := gT_2 (i := 110) rfl rfl
set_option maxRecDepth 20000 in
theorem gw2_111 : (Cond.selects "GrassBridge$Span" ⟨"GrassBridge$Span", "strengthAt", "(III)I"⟩ ⟨"GrassBridge$Span", "strengthAt", "(III)I"⟩) ∈ gT := gT_2 (i := 111) rfl rfl
set_option maxRecDepth 20000 in
theorem gw2_112 : (Cond.code ⟨"GrassBridge$Span", "strengthAt", "(III)I"⟩ prog_11_method_8_code (6 : Nat) (Option.some FieldType.int)) ∈ gT := gT_2 (i := 112) rfl rfl
set_option maxRecDepth 20000 in
theorem gw2_113 : (Cond.methodLink "GrassBridge$Span" (39 : Nat) ⟨"GrassBridge$Span", "ropeAt", "(I)LGrassBridge$Rope;"⟩) ∈ gT := gT_2 (i := 113) rfl rfl
set_option maxRecDepth 20000 in
theorem gw2_114 : (Cond.methodLink "GrassBridge$Span" (46 : Nat) ⟨"java/lang/Math", "max", "(II)I"⟩) ∈ gT := gT_2 (i := 114) rfl rfl
set_option maxRecDepth 20000 in
theorem gw2_115 : (Cond.methodLink "GrassBridge" (124 : Nat) ⟨"GrassBridge$Span", "takeFrom", "(I)LGrassBridge$Rope;"⟩) ∈ gT := gT_2 (i := 115) rfl rfl
set_option maxRecDepth 20000 in
theorem gw2_116 : (Cond.instanceMethod ⟨"GrassBridge$Span", "takeFrom", "(I)LGrassBridge$Rope;"⟩) ∈ gT := gT_2 (i := 116) rfl rfl
set_option maxRecDepth 20000 in
theorem gw2_117 : (Cond.selects "GrassBridge$Span" ⟨"GrassBridge$Span", "takeFrom", "(I)LGrassBridge$Rope;"⟩ ⟨"GrassBridge$Span", "takeFrom", "(I)LGrassBridge$Rope;"⟩) ∈ gT := gT_2 (i := 117) rfl rfl
set_option maxRecDepth 20000 in
theorem gw2_118 : (Cond.code ⟨"GrassBridge$Span", "takeFrom", "(I)LGrassBridge$Rope;"⟩ prog_11_method_5_code (3 : Nat) (Option.some (FieldType.object "GrassBridge$Rope"))) ∈ gT := gT_2 (i := 118) rfl rfl
set_option maxRecDepth 20000 in
theorem gw2_119 : (Cond.methodLink "GrassBridge" (127 : Nat) ⟨"GrassBridge$Breaks", "keep", "(LGrassBridge$Rope;II)V"⟩) ∈ gT := gT_2 (i := 119) rfl rfl
set_option maxRecDepth 20000 in
theorem gw2_120 : (Cond.instanceMethod ⟨"GrassBridge$Breaks", "keep", "(LGrassBridge$Rope;II)V"⟩) ∈ gT := gT_2 (i := 120) rfl rfl
set_option maxRecDepth 20000 in
theorem gw2_121 : (Cond.selects "GrassBridge$Breaks" ⟨"GrassBridge$Breaks", "keep", "(LGrassBridge$Rope;II)V"⟩ ⟨"GrassBridge$Breaks", "keep", "(LGrassBridge$Rope;II)V"⟩) ∈ gT := gT_2 (i := 121) rfl rfl
set_option maxRecDepth 20000 in
theorem gw2_122 : (Cond.code ⟨"GrassBridge$Breaks", "keep", "(LGrassBridge$Rope;II)V"⟩ prog_3_method_3_code (4 : Nat) (Option.none : Option FieldType)) ∈ gT := gT_2 (i := 122) rfl rfl
set_option maxRecDepth 20000 in
theorem gw2_123 : (Cond.instantiable "GrassBridge$Break" (3 : Nat)) ∈ gT := gT_2 (i := 123) rfl rfl
set_option maxRecDepth 20000 in
theorem gw2_124 : (Cond.methodLink "GrassBridge$Breaks" (21 : Nat) ⟨"GrassBridge$Break", "<init>", "(LGrassBridge$Rope;II)V"⟩) ∈ gT := gT_2 (i := 124) rfl rfl
set_option maxRecDepth 20000 in
theorem gw2_125 : (Cond.instanceMethod ⟨"GrassBridge$Break", "<init>", "(LGrassBridge$Rope;II)V"⟩) ∈ gT := gT_2 (i := 125) rfl rfl
set_option maxRecDepth 20000 in
theorem gw2_126 : (Cond.code ⟨"GrassBridge$Break", "<init>", "(LGrassBridge$Rope;II)V"⟩ prog_2_method_1_code (4 : Nat) (Option.none : Option FieldType)) ∈ gT := gT_2 (i := 126) rfl rfl
set_option maxRecDepth 20000 in
theorem gw2_127 : (Cond.methodLink "GrassBridge$Break" (1 : Nat) ⟨"java/lang/Object", "<init>", "()V"⟩) ∈ gT := gT_2 (i := 127) rfl rfl
set_option maxRecDepth 20000 in
theorem gw2_128 : (Cond.fieldLink "GrassBridge$Break" (7 : Nat) "GrassBridge$Break" "rope" "LGrassBridge$Rope;") ∈ gT := gT_2 (i := 128) rfl rfl
set_option maxRecDepth 20000 in
theorem gw2_129 : (Cond.fieldLink "GrassBridge" (239 : Nat) "GrassBridge$Break" "rope" "LGrassBridge$Rope;") ∈ gT := gT_2 (i := 129) rfl rfl
set_option maxRecDepth 20000 in
theorem gw2_130 : (Cond.fieldLink "GrassBridge$Break" (13 : Nat) "GrassBridge$Break" "year" "I") ∈ gT := gT_2 (i := 130) rfl rfl
set_option maxRecDepth 20000 in
theorem gw2_131 : (Cond.fieldLink "GrassBridge" (245 : Nat) "GrassBridge$Break" "year" "I") ∈ gT := gT_2 (i := 131) rfl rfl
set_option maxRecDepth 20000 in
theorem gw2_132 : (Cond.fieldLink "GrassBridge$Break" (17 : Nat) "GrassBridge$Break" "week" "I") ∈ gT := gT_2 (i := 132) rfl rfl
set_option maxRecDepth 20000 in
theorem gw2_133 : (Cond.fieldLink "GrassBridge" (246 : Nat) "GrassBridge$Break" "week" "I") ∈ gT := gT_2 (i := 133) rfl rfl
set_option maxRecDepth 20000 in
theorem gw2_134 : (Cond.laysFinal "GrassBridge$Break" "GrassBridge$Break" "rope" "LGrassBridge$Rope;") ∈ gT := gT_2 (i := 134) rfl rfl
set_option maxRecDepth 20000 in
theorem gw2_136 : (Cond.laysFinal "GrassBridge$Break" "GrassBridge$Break" "year" "I") ∈ gT := gT_2 (i := 136) rfl rfl
set_option maxRecDepth 20000 in
theorem gw2_138 : (Cond.laysFinal "GrassBridge$Break" "GrassBridge$Break" "week" "I") ∈ gT := gT_2 (i := 138) rfl rfl
set_option maxRecDepth 20000 in
theorem gw2_141 : (Cond.methodLink "GrassBridgeLaw" (23 : Nat) ⟨"GrassBridge", "house", "(II)I"⟩) ∈ gT := gT_2 (i := 141) rfl rfl
set_option maxRecDepth 20000 in
theorem gw2_142 : (Cond.instanceMethod ⟨"GrassBridge", "house", "(II)I"⟩) ∈ gT := gT_2 (i := 142) rfl rfl
set_option maxRecDepth 20000 in
theorem gw2_143 : (Cond.selects "GrassBridge" ⟨"GrassBridge", "house", "(II)I"⟩ ⟨"GrassBridge", "house", "(II)I"⟩) ∈ gT := gT_2 (i := 143) rfl rfl
set_option maxRecDepth 20000 in
theorem gw2_144 : (Cond.code ⟨"GrassBridge", "house", "(II)I"⟩ prog_1_method_11_code (4 : Nat) (Option.some FieldType.int)) ∈ gT := gT_2 (i := 144) rfl rfl
set_option maxRecDepth 20000 in
theorem gw2_145 : (Cond.methodLink "GrassBridge" (136 : Nat) ⟨"GrassBridge$Houses", "found", "(II)I"⟩) ∈ gT := gT_2 (i := 145) rfl rfl
set_option maxRecDepth 20000 in
theorem gw2_146 : (Cond.instanceMethod ⟨"GrassBridge$Houses", "found", "(II)I"⟩) ∈ gT := gT_2 (i := 146) rfl rfl
set_option maxRecDepth 20000 in
theorem gw2_147 : (Cond.selects "GrassBridge$Houses" ⟨"GrassBridge$Houses", "found", "(II)I"⟩ ⟨"GrassBridge$Houses", "found", "(II)I"⟩) ∈ gT := gT_2 (i := 147) rfl rfl
set_option maxRecDepth 20000 in
theorem gw2_148 : (Cond.code ⟨"GrassBridge$Houses", "found", "(II)I"⟩ prog_5_method_3_code (3 : Nat) (Option.some FieldType.int)) ∈ gT := gT_2 (i := 148) rfl rfl
set_option maxRecDepth 20000 in
theorem gw2_149 : (Cond.instantiable "GrassBridge$House" (9 : Nat)) ∈ gT := gT_2 (i := 149) rfl rfl
set_option maxRecDepth 20000 in
theorem gw2_150 : (Cond.methodLink "GrassBridge$Houses" (25 : Nat) ⟨"GrassBridge$House", "<init>", "(III)V"⟩) ∈ gT := gT_2 (i := 150) rfl rfl
set_option maxRecDepth 20000 in
theorem gw2_151 : (Cond.instanceMethod ⟨"GrassBridge$House", "<init>", "(III)V"⟩) ∈ gT := gT_2 (i := 151) rfl rfl
set_option maxRecDepth 20000 in
theorem gw2_152 : (Cond.code ⟨"GrassBridge$House", "<init>", "(III)V"⟩ prog_4_method_1_code (4 : Nat) (Option.none : Option FieldType)) ∈ gT := gT_2 (i := 152) rfl rfl
set_option maxRecDepth 20000 in
theorem gw2_153 : (Cond.methodLink "GrassBridge$House" (1 : Nat) ⟨"java/lang/Object", "<init>", "()V"⟩) ∈ gT := gT_2 (i := 153) rfl rfl
set_option maxRecDepth 20000 in
theorem gw2_154 : (Cond.fieldLink "GrassBridge$House" (17 : Nat) "GrassBridge$House" "number" "I") ∈ gT := gT_2 (i := 154) rfl rfl
set_option maxRecDepth 20000 in
theorem gw2_155 : (Cond.fieldLink "GrassBridge$RopeYard" (21 : Nat) "GrassBridge$House" "number" "I") ∈ gT := gT_2 (i := 155) rfl rfl
set_option maxRecDepth 20000 in
theorem gw2_156 : (Cond.fieldLink "GrassBridge$Houses" (56 : Nat) "GrassBridge$House" "number" "I") ∈ gT := gT_2 (i := 156) rfl rfl
set_option maxRecDepth 20000 in
theorem gw2_157 : (Cond.fieldLink "GrassBridge$House" (20 : Nat) "GrassBridge$House" "village" "I") ∈ gT := gT_2 (i := 157) rfl rfl
set_option maxRecDepth 20000 in
theorem gw2_158 : (Cond.fieldLink "GrassBridge$Houses" (35 : Nat) "GrassBridge$House" "village" "I") ∈ gT := gT_2 (i := 158) rfl rfl
set_option maxRecDepth 20000 in
theorem gw2_159 : (Cond.fieldLink "GrassBridge$House" (23 : Nat) "GrassBridge$House" "hands" "I") ∈ gT := gT_2 (i := 159) rfl rfl
set_option maxRecDepth 20000 in
theorem gw2_160 : (Cond.fieldLink "GrassBridge$Houses" (32 : Nat) "GrassBridge$House" "hands" "I") ∈ gT := gT_2 (i := 160) rfl rfl
set_option maxRecDepth 20000 in
theorem gw2_161 : (Cond.fieldLink "GrassBridge$House" (9 : Nat) "GrassBridge$House" "care" "I") ∈ gT := gT_2 (i := 161) rfl rfl
set_option maxRecDepth 20000 in
theorem gw2_162 : (Cond.fieldLink "GrassBridge$RopeYard" (26 : Nat) "GrassBridge$House" "care" "I") ∈ gT := gT_2 (i := 162) rfl rfl
set_option maxRecDepth 20000 in
theorem gw2_163 : (Cond.fieldLink "GrassBridge$House" (13 : Nat) "GrassBridge$House" "here" "Z") ∈ gT := gT_2 (i := 163) rfl rfl
set_option maxRecDepth 20000 in
theorem gw2_164 : (Cond.fieldLink "GrassBridge$Houses" (28 : Nat) "GrassBridge$House" "here" "Z") ∈ gT := gT_2 (i := 164) rfl rfl
set_option maxRecDepth 20000 in
theorem gw2_165 : (Cond.fieldLink "GrassBridge" (146 : Nat) "GrassBridge$House" "here" "Z") ∈ gT := gT_2 (i := 165) rfl rfl
set_option maxRecDepth 20000 in
theorem gw2_166 : (Cond.fieldLink "GrassBridge$House" (26 : Nat) "GrassBridge$House" "fathoms" "I") ∈ gT := gT_2 (i := 166) rfl rfl
set_option maxRecDepth 20000 in
theorem gw2_167 : (Cond.fieldLink "GrassBridge$Houses" (63 : Nat) "GrassBridge$House" "fathoms" "I") ∈ gT := gT_2 (i := 167) rfl rfl
set_option maxRecDepth 20000 in
theorem gw2_168 : (Cond.fieldLink "GrassBridge" (156 : Nat) "GrassBridge$House" "fathoms" "I") ∈ gT := gT_2 (i := 168) rfl rfl
set_option maxRecDepth 20000 in
theorem gw2_169 : (Cond.fieldLink "GrassBridge$House" (32 : Nat) "GrassBridge$House" "doubt" "I") ∈ gT := gT_2 (i := 169) rfl rfl
set_option maxRecDepth 20000 in
theorem gw2_170 : (Cond.fieldLink "GrassBridge" (159 : Nat) "GrassBridge$House" "doubt" "I") ∈ gT := gT_2 (i := 170) rfl rfl
set_option maxRecDepth 20000 in
theorem gw2_171 : (Cond.fieldLink "GrassBridge$House" (29 : Nat) "GrassBridge$House" "cordsLaid" "I") ∈ gT := gT_2 (i := 171) rfl rfl
set_option maxRecDepth 20000 in
theorem gw2_172 : (Cond.fieldLink "GrassBridge$RopeYard" (29 : Nat) "GrassBridge$House" "cordsLaid" "I") ∈ gT := gT_2 (i := 172) rfl rfl
set_option maxRecDepth 20000 in
theorem gw2_173 : (Cond.fieldLink "GrassBridge" (150 : Nat) "GrassBridge$House" "cordsLaid" "I") ∈ gT := gT_2 (i := 173) rfl rfl
set_option maxRecDepth 20000 in
theorem gw2_174 : (Cond.fieldLink "GrassBridge$Houses" (53 : Nat) "GrassBridge$House" "owed" "I") ∈ gT := gT_2 (i := 174) rfl rfl
set_option maxRecDepth 20000 in
theorem gw2_175 : (Cond.fieldLink "GrassBridge" (176 : Nat) "GrassBridge$House" "owed" "I") ∈ gT := gT_2 (i := 175) rfl rfl
set_option maxRecDepth 20000 in
theorem gw2_176 : (Cond.laysFinal "GrassBridge$House" "GrassBridge$House" "number" "I") ∈ gT := gT_2 (i := 176) rfl rfl
set_option maxRecDepth 20000 in
theorem gw2_178 : (Cond.laysFinal "GrassBridge$House" "GrassBridge$House" "village" "I") ∈ gT := gT_2 (i := 178) rfl rfl
set_option maxRecDepth 20000 in
theorem gw2_180 : (Cond.lays "GrassBridge$House" "GrassBridge$House" "hands" "I") ∈ gT := gT_2 (i := 180) rfl rfl
set_option maxRecDepth 20000 in
theorem gw2_182 : (Cond.lays "GrassBridge$House" "GrassBridge$House" "care" "I") ∈ gT := gT_2 (i := 182) rfl rfl
set_option maxRecDepth 20000 in
theorem gw2_184 : (Cond.lays "GrassBridge$House" "GrassBridge$House" "here" "Z") ∈ gT := gT_2 (i := 184) rfl rfl
set_option maxRecDepth 20000 in
theorem gw2_186 : (Cond.lays "GrassBridge$House" "GrassBridge$House" "fathoms" "I") ∈ gT := gT_2 (i := 186) rfl rfl
set_option maxRecDepth 20000 in
theorem gw2_188 : (Cond.lays "GrassBridge$House" "GrassBridge$House" "doubt" "I") ∈ gT := gT_2 (i := 188) rfl rfl
set_option maxRecDepth 20000 in
theorem gw2_190 : (Cond.lays "GrassBridge$House" "GrassBridge$House" "cordsLaid" "I") ∈ gT := gT_2 (i := 190) rfl rfl
set_option maxRecDepth 20000 in
theorem gw2_192 : (Cond.lays "GrassBridge$House" "GrassBridge$House" "owed" "I") ∈ gT := gT_2 (i := 192) rfl rfl
set_option maxRecDepth 20000 in
theorem gw2_195 : (Cond.methodLink "GrassBridgeLaw" (27 : Nat) ⟨"GrassBridge", "set", "(III)I"⟩) ∈ gT := gT_2 (i := 195) rfl rfl
set_option maxRecDepth 20000 in
theorem gw2_196 : (Cond.instanceMethod ⟨"GrassBridge", "set", "(III)I"⟩) ∈ gT := gT_2 (i := 196) rfl rfl
set_option maxRecDepth 20000 in
theorem gw2_197 : (Cond.selects "GrassBridge" ⟨"GrassBridge", "set", "(III)I"⟩ ⟨"GrassBridge", "set", "(III)I"⟩) ∈ gT := gT_2 (i := 197) rfl rfl
set_option maxRecDepth 20000 in
theorem gw2_198 : (Cond.code ⟨"GrassBridge", "set", "(III)I"⟩ prog_1_method_12_code (6 : Nat) (Option.some FieldType.int)) ∈ gT := gT_2 (i := 198) rfl rfl
set_option maxRecDepth 20000 in
theorem gw2_199 : (Cond.methodLink "GrassBridge" (139 : Nat) ⟨"GrassBridge$Houses", "find", "(I)LGrassBridge$House;"⟩) ∈ gT := gT_2 (i := 199) rfl rfl
set_option maxRecDepth 20000 in
theorem gw2_200 : (Cond.instanceMethod ⟨"GrassBridge$Houses", "find", "(I)LGrassBridge$House;"⟩) ∈ gT := gT_2 (i := 200) rfl rfl
set_option maxRecDepth 20000 in
theorem gw2_201 : (Cond.selects "GrassBridge$Houses" ⟨"GrassBridge$Houses", "find", "(I)LGrassBridge$House;"⟩ ⟨"GrassBridge$Houses", "find", "(I)LGrassBridge$House;"⟩) ∈ gT := gT_2 (i := 201) rfl rfl
set_option maxRecDepth 20000 in
theorem gw2_202 : (Cond.code ⟨"GrassBridge$Houses", "find", "(I)LGrassBridge$House;"⟩ prog_5_method_2_code (2 : Nat) (Option.some (FieldType.object "GrassBridge$House"))) ∈ gT := gT_2 (i := 202) rfl rfl
set_option maxRecDepth 20000 in
theorem gw2_203 : (Cond.methodLink "GrassBridge" (143 : Nat) ⟨"GrassBridge$House", "become", "(II)I"⟩) ∈ gT := gT_2 (i := 203) rfl rfl
set_option maxRecDepth 20000 in
theorem gw2_204 : (Cond.instanceMethod ⟨"GrassBridge$House", "become", "(II)I"⟩) ∈ gT := gT_2 (i := 204) rfl rfl
set_option maxRecDepth 20000 in
theorem gw2_205 : (Cond.selects "GrassBridge$House" ⟨"GrassBridge$House", "become", "(II)I"⟩ ⟨"GrassBridge$House", "become", "(II)I"⟩) ∈ gT := gT_2 (i := 205) rfl rfl
set_option maxRecDepth 20000 in
theorem gw2_206 : (Cond.code ⟨"GrassBridge$House", "become", "(II)I"⟩ prog_4_method_3_code (4 : Nat) (Option.some FieldType.int)) ∈ gT := gT_2 (i := 206) rfl rfl
set_option maxRecDepth 20000 in
theorem gw2_207 : (Cond.methodLink "GrassBridgeLaw" (32 : Nat) ⟨"GrassBridge", "bring", "(III)I"⟩) ∈ gT := gT_2 (i := 207) rfl rfl
set_option maxRecDepth 20000 in
theorem gw2_208 : (Cond.instanceMethod ⟨"GrassBridge", "bring", "(III)I"⟩) ∈ gT := gT_2 (i := 208) rfl rfl
set_option maxRecDepth 20000 in
theorem gw2_209 : (Cond.selects "GrassBridge" ⟨"GrassBridge", "bring", "(III)I"⟩ ⟨"GrassBridge", "bring", "(III)I"⟩) ∈ gT := gT_2 (i := 209) rfl rfl
set_option maxRecDepth 20000 in
theorem gw2_210 : (Cond.code ⟨"GrassBridge", "bring", "(III)I"⟩ prog_1_method_13_code (6 : Nat) (Option.some FieldType.int)) ∈ gT := gT_2 (i := 210) rfl rfl
set_option maxRecDepth 20000 in
theorem gw2_211 : (Cond.methodLink "GrassBridge" (153 : Nat) ⟨"GrassBridge", "first", "(II)I"⟩) ∈ gT := gT_2 (i := 211) rfl rfl
set_option maxRecDepth 20000 in
theorem gw2_212 : (Cond.static ⟨"GrassBridge", "first", "(II)I"⟩) ∈ gT := gT_2 (i := 212) rfl rfl
set_option maxRecDepth 20000 in
theorem gw2_213 : (Cond.code ⟨"GrassBridge", "first", "(II)I"⟩ prog_1_method_5_code (2 : Nat) (Option.some FieldType.int)) ∈ gT := gT_2 (i := 213) rfl rfl
set_option maxRecDepth 20000 in
theorem gw2_214 : (Cond.methodLink "GrassBridge" (162 : Nat) ⟨"GrassBridge$House", "cordsLeft", "()I"⟩) ∈ gT := gT_2 (i := 214) rfl rfl
set_option maxRecDepth 20000 in
theorem gw2_215 : (Cond.instanceMethod ⟨"GrassBridge$House", "cordsLeft", "()I"⟩) ∈ gT := gT_2 (i := 215) rfl rfl
set_option maxRecDepth 20000 in
theorem gw2_216 : (Cond.selects "GrassBridge$House" ⟨"GrassBridge$House", "cordsLeft", "()I"⟩ ⟨"GrassBridge$House", "cordsLeft", "()I"⟩) ∈ gT := gT_2 (i := 216) rfl rfl
set_option maxRecDepth 20000 in
theorem gw2_217 : (Cond.code ⟨"GrassBridge$House", "cordsLeft", "()I"⟩ prog_4_method_2_code (1 : Nat) (Option.some FieldType.int)) ∈ gT := gT_2 (i := 217) rfl rfl
set_option maxRecDepth 20000 in
theorem gw2_218 : (Cond.methodLink "GrassBridgeLaw" (36 : Nat) ⟨"GrassBridge", "brought", "(II)I"⟩) ∈ gT := gT_2 (i := 218) rfl rfl
set_option maxRecDepth 20000 in
theorem gw2_219 : (Cond.instanceMethod ⟨"GrassBridge", "brought", "(II)I"⟩) ∈ gT := gT_2 (i := 219) rfl rfl
set_option maxRecDepth 20000 in
theorem gw2_220 : (Cond.selects "GrassBridge" ⟨"GrassBridge", "brought", "(II)I"⟩ ⟨"GrassBridge", "brought", "(II)I"⟩) ∈ gT := gT_2 (i := 220) rfl rfl
set_option maxRecDepth 20000 in
theorem gw2_221 : (Cond.code ⟨"GrassBridge", "brought", "(II)I"⟩ prog_1_method_14_code (3 : Nat) (Option.some FieldType.int)) ∈ gT := gT_2 (i := 221) rfl rfl
set_option maxRecDepth 20000 in
theorem gw2_222 : (Cond.methodLink "GrassBridge" (166 : Nat) ⟨"GrassBridge$Houses", "fathomsOf", "(II)I"⟩) ∈ gT := gT_2 (i := 222) rfl rfl
set_option maxRecDepth 20000 in
theorem gw2_223 : (Cond.instanceMethod ⟨"GrassBridge$Houses", "fathomsOf", "(II)I"⟩) ∈ gT := gT_2 (i := 223) rfl rfl
set_option maxRecDepth 20000 in
theorem gw2_224 : (Cond.selects "GrassBridge$Houses" ⟨"GrassBridge$Houses", "fathomsOf", "(II)I"⟩ ⟨"GrassBridge$Houses", "fathomsOf", "(II)I"⟩) ∈ gT := gT_2 (i := 224) rfl rfl
set_option maxRecDepth 20000 in
theorem gw2_225 : (Cond.code ⟨"GrassBridge$Houses", "fathomsOf", "(II)I"⟩ prog_5_method_5_code (5 : Nat) (Option.some FieldType.int)) ∈ gT := gT_2 (i := 225) rfl rfl
set_option maxRecDepth 20000 in
theorem gw2_226 : (Cond.methodLink "GrassBridge$Houses" (38 : Nat) ⟨"GrassBridge$House", "fathomsAs", "(I)I"⟩) ∈ gT := gT_2 (i := 226) rfl rfl
set_option maxRecDepth 20000 in
theorem gw2_227 : (Cond.instanceMethod ⟨"GrassBridge$House", "fathomsAs", "(I)I"⟩) ∈ gT := gT_2 (i := 227) rfl rfl
set_option maxRecDepth 20000 in
theorem gw2_228 : (Cond.selects "GrassBridge$House" ⟨"GrassBridge$House", "fathomsAs", "(I)I"⟩ ⟨"GrassBridge$House", "fathomsAs", "(I)I"⟩) ∈ gT := gT_2 (i := 228) rfl rfl
set_option maxRecDepth 20000 in
theorem gw2_229 : (Cond.code ⟨"GrassBridge$House", "fathomsAs", "(I)I"⟩ prog_4_method_4_code (2 : Nat) (Option.some FieldType.int)) ∈ gT := gT_2 (i := 229) rfl rfl
set_option maxRecDepth 20000 in
theorem gw2_230 : (Cond.methodLink "GrassBridge$House" (35 : Nat) ⟨"java/lang/Math", "max", "(II)I"⟩) ∈ gT := gT_2 (i := 230) rfl rfl
set_option maxRecDepth 20000 in
theorem gw2_231 : (Cond.methodLink "GrassBridgeLaw" (40 : Nat) ⟨"GrassBridge", "ask", "(I)I"⟩) ∈ gT := gT_2 (i := 231) rfl rfl
set_option maxRecDepth 20000 in
theorem gw2_232 : (Cond.instanceMethod ⟨"GrassBridge", "ask", "(I)I"⟩) ∈ gT := gT_2 (i := 232) rfl rfl
set_option maxRecDepth 20000 in
theorem gw2_233 : (Cond.selects "GrassBridge" ⟨"GrassBridge", "ask", "(I)I"⟩ ⟨"GrassBridge", "ask", "(I)I"⟩) ∈ gT := gT_2 (i := 233) rfl rfl
set_option maxRecDepth 20000 in
theorem gw2_234 : (Cond.code ⟨"GrassBridge", "ask", "(I)I"⟩ prog_1_method_15_code (4 : Nat) (Option.some FieldType.int)) ∈ gT := gT_2 (i := 234) rfl rfl
set_option maxRecDepth 20000 in
theorem gw2_235 : (Cond.methodLink "GrassBridgeLaw" (44 : Nat) ⟨"GrassBridge", "share", "(I)I"⟩) ∈ gT := gT_2 (i := 235) rfl rfl
set_option maxRecDepth 20000 in
theorem gw2_236 : (Cond.instanceMethod ⟨"GrassBridge", "share", "(I)I"⟩) ∈ gT := gT_2 (i := 236) rfl rfl
set_option maxRecDepth 20000 in
theorem gw2_237 : (Cond.selects "GrassBridge" ⟨"GrassBridge", "share", "(I)I"⟩ ⟨"GrassBridge", "share", "(I)I"⟩) ∈ gT := gT_2 (i := 237) rfl rfl
set_option maxRecDepth 20000 in
theorem gw2_238 : (Cond.code ⟨"GrassBridge", "share", "(I)I"⟩ prog_1_method_16_code (3 : Nat) (Option.some FieldType.int)) ∈ gT := gT_2 (i := 238) rfl rfl
set_option maxRecDepth 20000 in
theorem gw2_239 : (Cond.methodLink "GrassBridge" (172 : Nat) ⟨"GrassBridge$Houses", "shareOf", "(LGrassBridge$House;)I"⟩) ∈ gT := gT_2 (i := 239) rfl rfl
set_option maxRecDepth 20000 in
theorem gw3_0 : (Cond.methodLink "GrassBridgeLaw" (48 : Nat) ⟨"GrassBridge", "owed", "(I)I"⟩) ∈ gT := gT_3 (i := 0) rfl rfl
set_option maxRecDepth 20000 in
theorem gw3_1 : (Cond.instanceMethod ⟨"GrassBridge", "owed", "(I)I"⟩) ∈ gT := gT_3 (i := 1) rfl rfl
set_option maxRecDepth 20000 in
theorem gw3_2 : (Cond.selects "GrassBridge" ⟨"GrassBridge", "owed", "(I)I"⟩ ⟨"GrassBridge", "owed", "(I)I"⟩) ∈ gT := gT_3 (i := 2) rfl rfl
set_option maxRecDepth 20000 in
theorem gw3_3 : (Cond.code ⟨"GrassBridge", "owed", "(I)I"⟩ prog_1_method_17_code (3 : Nat) (Option.some FieldType.int)) ∈ gT := gT_3 (i := 3) rfl rfl
set_option maxRecDepth 20000 in
theorem gw3_4 : (Cond.methodLink "GrassBridgeLaw" (57 : Nat) ⟨"GrassBridge", "small", "(III)I"⟩) ∈ gT := gT_3 (i := 4) rfl rfl
set_option maxRecDepth 20000 in
theorem gw3_5 : (Cond.instanceMethod ⟨"GrassBridge", "small", "(III)I"⟩) ∈ gT := gT_3 (i := 5) rfl rfl
set_option maxRecDepth 20000 in
theorem gw3_6 : (Cond.selects "GrassBridge" ⟨"GrassBridge", "small", "(III)I"⟩ ⟨"GrassBridge", "small", "(III)I"⟩) ∈ gT := gT_3 (i := 6) rfl rfl
set_option maxRecDepth 20000 in
theorem gw3_7 : (Cond.code ⟨"GrassBridge", "small", "(III)I"⟩ prog_1_method_18_code (7 : Nat) (Option.some FieldType.int)) ∈ gT := gT_3 (i := 7) rfl rfl
set_option maxRecDepth 20000 in
theorem gw3_8 : (Cond.methodLink "GrassBridge" (179 : Nat) ⟨"GrassBridge", "timesAmong", "(IIII)I"⟩) ∈ gT := gT_3 (i := 8) rfl rfl
set_option maxRecDepth 20000 in
theorem gw3_9 : (Cond.static ⟨"GrassBridge", "timesAmong", "(IIII)I"⟩) ∈ gT := gT_3 (i := 9) rfl rfl
set_option maxRecDepth 20000 in
theorem gw3_10 : (Cond.code ⟨"GrassBridge", "timesAmong", "(IIII)I"⟩ prog_1_method_19_code (4 : Nat) (Option.some FieldType.int)) ∈ gT := gT_3 (i := 10) rfl rfl
set_option maxRecDepth 20000 in
theorem gw3_11 : (Cond.methodLink "GrassBridge" (183 : Nat) ⟨"GrassBridge$RopeYard", "isFull", "()Z"⟩) ∈ gT := gT_3 (i := 11) rfl rfl
set_option maxRecDepth 20000 in
theorem gw3_12 : (Cond.instanceMethod ⟨"GrassBridge$RopeYard", "isFull", "()Z"⟩) ∈ gT := gT_3 (i := 12) rfl rfl
set_option maxRecDepth 20000 in
theorem gw3_13 : (Cond.selects "GrassBridge$RopeYard" ⟨"GrassBridge$RopeYard", "isFull", "()Z"⟩ ⟨"GrassBridge$RopeYard", "isFull", "()Z"⟩) ∈ gT := gT_3 (i := 13) rfl rfl
set_option maxRecDepth 20000 in
theorem gw3_14 : (Cond.code ⟨"GrassBridge$RopeYard", "isFull", "()Z"⟩ prog_9_method_3_code (1 : Nat) (Option.some FieldType.boolean)) ∈ gT := gT_3 (i := 14) rfl rfl
set_option maxRecDepth 20000 in
theorem gw3_15 : (Cond.methodLink "GrassBridge" (187 : Nat) ⟨"GrassBridge$RopeYard", "twist", "(LGrassBridge$House;LGrassBridge$House;LGrassBridge$House;I)I"⟩) ∈ gT := gT_3 (i := 15) rfl rfl
set_option maxRecDepth 20000 in
theorem gw3_16 : (Cond.instanceMethod ⟨"GrassBridge$RopeYard", "twist", "(LGrassBridge$House;LGrassBridge$House;LGrassBridge$House;I)I"⟩) ∈ gT := gT_3 (i := 16) rfl rfl
set_option maxRecDepth 20000 in
theorem gw3_17 : (Cond.selects "GrassBridge$RopeYard" ⟨"GrassBridge$RopeYard", "twist", "(LGrassBridge$House;LGrassBridge$House;LGrassBridge$House;I)I"⟩ ⟨"GrassBridge$RopeYard", "twist", "(LGrassBridge$House;LGrassBridge$House;LGrassBridge$House;I)I"⟩) ∈ gT := gT_3 (i := 17) rfl rfl
set_option maxRecDepth 20000 in
theorem gw3_18 : (Cond.code ⟨"GrassBridge$RopeYard", "twist", "(LGrassBridge$House;LGrassBridge$House;LGrassBridge$House;I)I"⟩ prog_9_method_4_code (8 : Nat) (Option.some FieldType.int)) ∈ gT := gT_3 (i := 18) rfl rfl
set_option maxRecDepth 20000 in
theorem gw3_19 : (Cond.methodLink "GrassBridge$RopeYard" (32 : Nat) ⟨"java/lang/Math", "min", "(II)I"⟩) ∈ gT := gT_3 (i := 19) rfl rfl
set_option maxRecDepth 20000 in
theorem gw3_20 : (Cond.static ⟨"java/lang/Math", "min", "(II)I"⟩) ∈ gT := gT_3 (i := 20) rfl rfl
set_option maxRecDepth 20000 in
theorem gw3_21 : (Cond.code ⟨"java/lang/Math", "min", "(II)I"⟩ prog_16_method_69_code (2 : Nat) (Option.some FieldType.int)) ∈ gT := gT_3 (i := 21) rfl rfl
set_option maxRecDepth 20000 in
theorem gw3_22 : (Cond.instantiable "GrassBridge$Rope" (9 : Nat)) ∈ gT := gT_3 (i := 22) rfl rfl
set_option maxRecDepth 20000 in
theorem gw3_23 : (Cond.methodLink "GrassBridge$RopeYard" (38 : Nat) ⟨"GrassBridge$Rope", "<init>", "(IIII[I[I)V"⟩) ∈ gT := gT_3 (i := 23) rfl rfl
set_option maxRecDepth 20000 in
theorem gw3_24 : (Cond.instanceMethod ⟨"GrassBridge$Rope", "<init>", "(IIII[I[I)V"⟩) ∈ gT := gT_3 (i := 24) rfl rfl
set_option maxRecDepth 20000 in
theorem gw3_25 : (Cond.code ⟨"GrassBridge$Rope", "<init>", "(IIII[I[I)V"⟩ prog_8_method_1_code (7 : Nat) (Option.none : Option FieldType)) ∈ gT := gT_3 (i := 25) rfl rfl
set_option maxRecDepth 20000 in
theorem gw3_26 : (Cond.methodLink "GrassBridge$Rope" (3 : Nat) ⟨"java/lang/Object", "<init>", "()V"⟩) ∈ gT := gT_3 (i := 26) rfl rfl
set_option maxRecDepth 20000 in
theorem gw3_27 : (Cond.fieldLink "GrassBridge$Rope" (15 : Nat) "GrassBridge$Rope" "number" "I") ∈ gT := gT_3 (i := 27) rfl rfl
set_option maxRecDepth 20000 in
theorem gw3_28 : (Cond.fieldLink "GrassBridge" (223 : Nat) "GrassBridge$Rope" "number" "I") ∈ gT := gT_3 (i := 28) rfl rfl
set_option maxRecDepth 20000 in
theorem gw3_29 : (Cond.fieldLink "GrassBridge$Rope" (18 : Nat) "GrassBridge$Rope" "kind" "I") ∈ gT := gT_3 (i := 29) rfl rfl
set_option maxRecDepth 20000 in
theorem gw3_30 : (Cond.fieldLink "GrassBridge$RopeYard" (66 : Nat) "GrassBridge$Rope" "kind" "I") ∈ gT := gT_3 (i := 30) rfl rfl
set_option maxRecDepth 20000 in
theorem gw3_31 : (Cond.fieldLink "GrassBridge" (193 : Nat) "GrassBridge$Rope" "kind" "I") ∈ gT := gT_3 (i := 31) rfl rfl
set_option maxRecDepth 20000 in
theorem gw3_32 : (Cond.fieldLink "GrassBridge$Rope" (21 : Nat) "GrassBridge$Rope" "soundness" "I") ∈ gT := gT_3 (i := 32) rfl rfl
set_option maxRecDepth 20000 in
theorem gw3_33 : (Cond.fieldLink "GrassBridge$RopeYard" (49 : Nat) "GrassBridge$Rope" "soundness" "I") ∈ gT := gT_3 (i := 33) rfl rfl
set_option maxRecDepth 20000 in
theorem gw3_34 : (Cond.fieldLink "GrassBridge$Span" (43 : Nat) "GrassBridge$Rope" "soundness" "I") ∈ gT := gT_3 (i := 34) rfl rfl
set_option maxRecDepth 20000 in
theorem gw3_35 : (Cond.fieldLink "GrassBridge" (208 : Nat) "GrassBridge$Rope" "soundness" "I") ∈ gT := gT_3 (i := 35) rfl rfl
set_option maxRecDepth 20000 in
theorem gw3_36 : (Cond.fieldLink "GrassBridge$Rope" (24 : Nat) "GrassBridge$Rope" "yearLaid" "I") ∈ gT := gT_3 (i := 36) rfl rfl
set_option maxRecDepth 20000 in
theorem gw3_37 : (Cond.fieldLink "GrassBridge" (214 : Nat) "GrassBridge$Rope" "yearLaid" "I") ∈ gT := gT_3 (i := 37) rfl rfl
set_option maxRecDepth 20000 in
theorem gw3_38 : (Cond.fieldLink "GrassBridge$Rope" (27 : Nat) "GrassBridge$Rope" "owners" "[I") ∈ gT := gT_3 (i := 38) rfl rfl
set_option maxRecDepth 20000 in
theorem gw3_39 : (Cond.fieldLink "GrassBridge$RopeYard" (55 : Nat) "GrassBridge$Rope" "owners" "[I") ∈ gT := gT_3 (i := 39) rfl rfl
set_option maxRecDepth 20000 in
theorem gw3_40 : (Cond.fieldLink "GrassBridge$Rope" (31 : Nat) "GrassBridge$Rope" "cares" "[I") ∈ gT := gT_3 (i := 40) rfl rfl
set_option maxRecDepth 20000 in
theorem gw3_41 : (Cond.fieldLink "GrassBridge$RopeYard" (63 : Nat) "GrassBridge$Rope" "cares" "[I") ∈ gT := gT_3 (i := 41) rfl rfl
set_option maxRecDepth 20000 in
theorem gw3_42 : (Cond.fieldLink "GrassBridge$Rope" (34 : Nat) "GrassBridge$Rope" "laidOn" "Z") ∈ gT := gT_3 (i := 42) rfl rfl
set_option maxRecDepth 20000 in
theorem gw3_43 : (Cond.fieldLink "GrassBridge$RopeYard" (45 : Nat) "GrassBridge$Rope" "laidOn" "Z") ∈ gT := gT_3 (i := 43) rfl rfl
set_option maxRecDepth 20000 in
theorem gw3_44 : (Cond.fieldLink "GrassBridge$Rope" (38 : Nat) "GrassBridge$Rope" "hungOnce" "Z") ∈ gT := gT_3 (i := 44) rfl rfl
set_option maxRecDepth 20000 in
theorem gw3_45 : (Cond.fieldLink "GrassBridge$Span" (31 : Nat) "GrassBridge$Rope" "hungOnce" "Z") ∈ gT := gT_3 (i := 45) rfl rfl
set_option maxRecDepth 20000 in
theorem gw3_46 : (Cond.fieldLink "GrassBridge$Rope" (9 : Nat) "GrassBridge$Rope" "place" "I") ∈ gT := gT_3 (i := 46) rfl rfl
set_option maxRecDepth 20000 in
theorem gw3_47 : (Cond.fieldLink "GrassBridge$Span" (35 : Nat) "GrassBridge$Rope" "place" "I") ∈ gT := gT_3 (i := 47) rfl rfl
set_option maxRecDepth 20000 in
theorem gw3_48 : (Cond.fieldLink "GrassBridge" (211 : Nat) "GrassBridge$Rope" "place" "I") ∈ gT := gT_3 (i := 48) rfl rfl
set_option maxRecDepth 20000 in
theorem gw3_49 : (Cond.laysFinal "GrassBridge$Rope" "GrassBridge$Rope" "number" "I") ∈ gT := gT_3 (i := 49) rfl rfl
set_option maxRecDepth 20000 in
theorem gw3_51 : (Cond.laysFinal "GrassBridge$Rope" "GrassBridge$Rope" "kind" "I") ∈ gT := gT_3 (i := 51) rfl rfl
set_option maxRecDepth 20000 in
theorem gw3_53 : (Cond.laysFinal "GrassBridge$Rope" "GrassBridge$Rope" "soundness" "I") ∈ gT := gT_3 (i := 53) rfl rfl
set_option maxRecDepth 20000 in
theorem gw3_55 : (Cond.laysFinal "GrassBridge$Rope" "GrassBridge$Rope" "yearLaid" "I") ∈ gT := gT_3 (i := 55) rfl rfl
set_option maxRecDepth 20000 in
theorem gw3_57 : (Cond.laysFinal "GrassBridge$Rope" "GrassBridge$Rope" "owners" "[I") ∈ gT := gT_3 (i := 57) rfl rfl
set_option maxRecDepth 20000 in
theorem gw3_59 : (Cond.laysFinal "GrassBridge$Rope" "GrassBridge$Rope" "cares" "[I") ∈ gT := gT_3 (i := 59) rfl rfl
set_option maxRecDepth 20000 in
theorem gw3_61 : (Cond.lays "GrassBridge$Rope" "GrassBridge$Rope" "laidOn" "Z") ∈ gT := gT_3 (i := 61) rfl rfl
set_option maxRecDepth 20000 in
theorem gw3_63 : (Cond.lays "GrassBridge$Rope" "GrassBridge$Rope" "hungOnce" "Z") ∈ gT := gT_3 (i := 63) rfl rfl
set_option maxRecDepth 20000 in
theorem gw3_65 : (Cond.lays "GrassBridge$Rope" "GrassBridge$Rope" "place" "I") ∈ gT := gT_3 (i := 65) rfl rfl
set_option maxRecDepth 20000 in
theorem gw3_68 : (Cond.methodLink "GrassBridge$RopeYard" (41 : Nat) ⟨"GrassBridge$RopeYard", "keep", "(LGrassBridge$Rope;)I"⟩) ∈ gT := gT_3 (i := 68) rfl rfl
set_option maxRecDepth 20000 in
theorem gw3_70 : (Cond.instanceMethod ⟨"GrassBridge$RopeYard", "keep", "(LGrassBridge$Rope;)I"⟩) ∈ gT := gT_3 (i := 70) rfl rfl
set_option maxRecDepth 20000 in
theorem gw3_71 : (Cond.code ⟨"GrassBridge$RopeYard", "keep", "(LGrassBridge$Rope;)I"⟩ prog_9_method_7_code (2 : Nat) (Option.some FieldType.int)) ∈ gT := gT_3 (i := 71) rfl rfl
set_option maxRecDepth 20000 in
theorem gw3_72 : (Cond.methodLink "GrassBridge$RopeYard" (75 : Nat) ⟨"GrassBridge$RopeYard", "isFull", "()Z"⟩) ∈ gT := gT_3 (i := 72) rfl rfl
set_option maxRecDepth 20000 in
theorem gw3_73 : (Cond.methodLink "GrassBridgeLaw" (61 : Nat) ⟨"GrassBridge", "lay", "(III)I"⟩) ∈ gT := gT_3 (i := 73) rfl rfl
set_option maxRecDepth 20000 in
theorem gw3_74 : (Cond.instanceMethod ⟨"GrassBridge", "lay", "(III)I"⟩) ∈ gT := gT_3 (i := 74) rfl rfl
set_option maxRecDepth 20000 in
theorem gw3_75 : (Cond.selects "GrassBridge" ⟨"GrassBridge", "lay", "(III)I"⟩ ⟨"GrassBridge", "lay", "(III)I"⟩) ∈ gT := gT_3 (i := 75) rfl rfl
set_option maxRecDepth 20000 in
theorem gw3_76 : (Cond.code ⟨"GrassBridge", "lay", "(III)I"⟩ prog_1_method_20_code (8 : Nat) (Option.some FieldType.int)) ∈ gT := gT_3 (i := 76) rfl rfl
set_option maxRecDepth 20000 in
theorem gw3_77 : (Cond.methodLink "GrassBridge" (191 : Nat) ⟨"GrassBridge$RopeYard", "find", "(I)LGrassBridge$Rope;"⟩) ∈ gT := gT_3 (i := 77) rfl rfl
set_option maxRecDepth 20000 in
theorem gw3_78 : (Cond.instanceMethod ⟨"GrassBridge$RopeYard", "find", "(I)LGrassBridge$Rope;"⟩) ∈ gT := gT_3 (i := 78) rfl rfl
set_option maxRecDepth 20000 in
theorem gw3_79 : (Cond.selects "GrassBridge$RopeYard" ⟨"GrassBridge$RopeYard", "find", "(I)LGrassBridge$Rope;"⟩ ⟨"GrassBridge$RopeYard", "find", "(I)LGrassBridge$Rope;"⟩) ∈ gT := gT_3 (i := 79) rfl rfl
set_option maxRecDepth 20000 in
theorem gw3_80 : (Cond.code ⟨"GrassBridge$RopeYard", "find", "(I)LGrassBridge$Rope;"⟩ prog_9_method_2_code (2 : Nat) (Option.some (FieldType.object "GrassBridge$Rope"))) ∈ gT := gT_3 (i := 80) rfl rfl
set_option maxRecDepth 20000 in
theorem gw3_81 : (Cond.methodLink "GrassBridge" (198 : Nat) ⟨"GrassBridge$Rope", "isFree", "(I)Z"⟩) ∈ gT := gT_3 (i := 81) rfl rfl
set_option maxRecDepth 20000 in
theorem gw3_82 : (Cond.instanceMethod ⟨"GrassBridge$Rope", "isFree", "(I)Z"⟩) ∈ gT := gT_3 (i := 82) rfl rfl
set_option maxRecDepth 20000 in
theorem gw3_83 : (Cond.selects "GrassBridge$Rope" ⟨"GrassBridge$Rope", "isFree", "(I)Z"⟩ ⟨"GrassBridge$Rope", "isFree", "(I)Z"⟩) ∈ gT := gT_3 (i := 83) rfl rfl
set_option maxRecDepth 20000 in
theorem gw3_84 : (Cond.code ⟨"GrassBridge$Rope", "isFree", "(I)Z"⟩ prog_8_method_2_code (2 : Nat) (Option.some FieldType.boolean)) ∈ gT := gT_3 (i := 84) rfl rfl
set_option maxRecDepth 20000 in
theorem gw3_85 : (Cond.methodLink "GrassBridge" (201 : Nat) ⟨"GrassBridge$RopeYard", "join", "(LGrassBridge$Rope;LGrassBridge$Rope;LGrassBridge$Rope;I)I"⟩) ∈ gT := gT_3 (i := 85) rfl rfl
set_option maxRecDepth 20000 in
theorem gw3_86 : (Cond.instanceMethod ⟨"GrassBridge$RopeYard", "join", "(LGrassBridge$Rope;LGrassBridge$Rope;LGrassBridge$Rope;I)I"⟩) ∈ gT := gT_3 (i := 86) rfl rfl
set_option maxRecDepth 20000 in
theorem gw3_87 : (Cond.selects "GrassBridge$RopeYard" ⟨"GrassBridge$RopeYard", "join", "(LGrassBridge$Rope;LGrassBridge$Rope;LGrassBridge$Rope;I)I"⟩ ⟨"GrassBridge$RopeYard", "join", "(LGrassBridge$Rope;LGrassBridge$Rope;LGrassBridge$Rope;I)I"⟩) ∈ gT := gT_3 (i := 87) rfl rfl
set_option maxRecDepth 20000 in
theorem gw3_88 : (Cond.code ⟨"GrassBridge$RopeYard", "join", "(LGrassBridge$Rope;LGrassBridge$Rope;LGrassBridge$Rope;I)I"⟩ prog_9_method_5_code (8 : Nat) (Option.some FieldType.int)) ∈ gT := gT_3 (i := 88) rfl rfl
set_option maxRecDepth 20000 in
theorem gw3_89 : (Cond.methodLink "GrassBridge$RopeYard" (52 : Nat) ⟨"java/lang/Math", "max", "(II)I"⟩) ∈ gT := gT_3 (i := 89) rfl rfl
set_option maxRecDepth 20000 in
theorem gw3_90 : (Cond.methodLink "GrassBridge$RopeYard" (59 : Nat) ⟨"GrassBridge$RopeYard", "joined", "([I[I[I)[I"⟩) ∈ gT := gT_3 (i := 90) rfl rfl
set_option maxRecDepth 20000 in
theorem gw3_91 : (Cond.static ⟨"GrassBridge$RopeYard", "joined", "([I[I[I)[I"⟩) ∈ gT := gT_3 (i := 91) rfl rfl
set_option maxRecDepth 20000 in
theorem gw3_92 : (Cond.code ⟨"GrassBridge$RopeYard", "joined", "([I[I[I)[I"⟩ prog_9_method_6_code (4 : Nat) (Option.some (FieldType.array FieldType.int))) ∈ gT := gT_3 (i := 92) rfl rfl
set_option maxRecDepth 20000 in
theorem gw3_93 : (Cond.methodLink "GrassBridge$RopeYard" (69 : Nat) ⟨"java/lang/System", "arraycopy", "(Ljava/lang/Object;ILjava/lang/Object;II)V"⟩) ∈ gT := gT_3 (i := 93) rfl rfl
set_option maxRecDepth 20000 in
theorem gw3_94 : (Cond.static ⟨"java/lang/System", "arraycopy", "(Ljava/lang/Object;ILjava/lang/Object;II)V"⟩) ∈ gT := gT_3 (i := 94) rfl rfl
set_option maxRecDepth 20000 in
theorem gw3_95 : (Cond.native ⟨"java/lang/System", "arraycopy", "(Ljava/lang/Object;ILjava/lang/Object;II)V"⟩) ∈ gT := gT_3 (i := 95) rfl rfl
set_option maxRecDepth 20000 in
theorem gw3_96 : (Cond.methodLink "GrassBridgeLaw" (105 : Nat) ⟨"GrassBridge", "strands", "(II)I"⟩) ∈ gT := gT_3 (i := 96) rfl rfl
set_option maxRecDepth 20000 in
theorem gw3_97 : (Cond.instanceMethod ⟨"GrassBridge", "strands", "(II)I"⟩) ∈ gT := gT_3 (i := 97) rfl rfl
set_option maxRecDepth 20000 in
theorem gw3_98 : (Cond.selects "GrassBridge" ⟨"GrassBridge", "strands", "(II)I"⟩ ⟨"GrassBridge", "strands", "(II)I"⟩) ∈ gT := gT_3 (i := 98) rfl rfl
set_option maxRecDepth 20000 in
theorem gw3_99 : (Cond.code ⟨"GrassBridge", "strands", "(II)I"⟩ prog_1_method_21_code (4 : Nat) (Option.some FieldType.int)) ∈ gT := gT_3 (i := 99) rfl rfl
set_option maxRecDepth 20000 in
theorem gw3_100 : (Cond.methodLink "GrassBridge" (205 : Nat) ⟨"GrassBridge$Rope", "cordsOf", "(I)I"⟩) ∈ gT := gT_3 (i := 100) rfl rfl
set_option maxRecDepth 20000 in
theorem gw3_101 : (Cond.instanceMethod ⟨"GrassBridge$Rope", "cordsOf", "(I)I"⟩) ∈ gT := gT_3 (i := 101) rfl rfl
set_option maxRecDepth 20000 in
theorem gw3_102 : (Cond.selects "GrassBridge$Rope" ⟨"GrassBridge$Rope", "cordsOf", "(I)I"⟩ ⟨"GrassBridge$Rope", "cordsOf", "(I)I"⟩) ∈ gT := gT_3 (i := 102) rfl rfl
set_option maxRecDepth 20000 in
theorem gw3_103 : (Cond.code ⟨"GrassBridge$Rope", "cordsOf", "(I)I"⟩ prog_8_method_3_code (4 : Nat) (Option.some FieldType.int)) ∈ gT := gT_3 (i := 103) rfl rfl
set_option maxRecDepth 20000 in
theorem gw3_104 : (Cond.methodLink "GrassBridgeLaw" (139 : Nat) ⟨"GrassBridge", "ropeOf", "(II)I"⟩) ∈ gT := gT_3 (i := 104) rfl rfl
set_option maxRecDepth 20000 in
theorem gw3_105 : (Cond.instanceMethod ⟨"GrassBridge", "ropeOf", "(II)I"⟩) ∈ gT := gT_3 (i := 105) rfl rfl
set_option maxRecDepth 20000 in
theorem gw3_106 : (Cond.selects "GrassBridge" ⟨"GrassBridge", "ropeOf", "(II)I"⟩ ⟨"GrassBridge", "ropeOf", "(II)I"⟩) ∈ gT := gT_3 (i := 106) rfl rfl
set_option maxRecDepth 20000 in
theorem gw3_107 : (Cond.code ⟨"GrassBridge", "ropeOf", "(II)I"⟩ prog_1_method_22_code (4 : Nat) (Option.some FieldType.int)) ∈ gT := gT_3 (i := 107) rfl rfl
set_option maxRecDepth 20000 in
theorem gw3_108 : (Cond.methodLink "GrassBridgeLaw" (65 : Nat) ⟨"GrassBridge", "hang", "(II)I"⟩) ∈ gT := gT_3 (i := 108) rfl rfl
set_option maxRecDepth 20000 in
theorem gw3_109 : (Cond.instanceMethod ⟨"GrassBridge", "hang", "(II)I"⟩) ∈ gT := gT_3 (i := 109) rfl rfl
set_option maxRecDepth 20000 in
theorem gw3_110 : (Cond.selects "GrassBridge" ⟨"GrassBridge", "hang", "(II)I"⟩ ⟨"GrassBridge", "hang", "(II)I"⟩) ∈ gT := gT_3 (i := 110) rfl rfl
set_option maxRecDepth 20000 in
theorem gw3_111 : (Cond.code ⟨"GrassBridge", "hang", "(II)I"⟩ prog_1_method_23_code (4 : Nat) (Option.some FieldType.int)) ∈ gT := gT_3 (i := 111) rfl rfl
set_option maxRecDepth 20000 in
theorem gw3_112 : (Cond.methodLink "GrassBridge" (217 : Nat) ⟨"GrassBridge$Span", "isPlace", "(I)Z"⟩) ∈ gT := gT_3 (i := 112) rfl rfl
set_option maxRecDepth 20000 in
theorem gw3_113 : (Cond.methodLink "GrassBridge" (220 : Nat) ⟨"GrassBridge$Span", "put", "(LGrassBridge$Rope;II)V"⟩) ∈ gT := gT_3 (i := 113) rfl rfl
set_option maxRecDepth 20000 in
theorem gw3_114 : (Cond.instanceMethod ⟨"GrassBridge$Span", "put", "(LGrassBridge$Rope;II)V"⟩) ∈ gT := gT_3 (i := 114) rfl rfl
set_option maxRecDepth 20000 in
theorem gw3_115 : (Cond.selects "GrassBridge$Span" ⟨"GrassBridge$Span", "put", "(LGrassBridge$Rope;II)V"⟩ ⟨"GrassBridge$Span", "put", "(LGrassBridge$Rope;II)V"⟩) ∈ gT := gT_3 (i := 115) rfl rfl
set_option maxRecDepth 20000 in
theorem gw3_116 : (Cond.code ⟨"GrassBridge$Span", "put", "(LGrassBridge$Rope;II)V"⟩ prog_11_method_4_code (4 : Nat) (Option.none : Option FieldType)) ∈ gT := gT_3 (i := 116) rfl rfl
set_option maxRecDepth 20000 in
theorem gw3_117 : (Cond.methodLink "GrassBridgeLaw" (69 : Nat) ⟨"GrassBridge", "cut", "(I)I"⟩) ∈ gT := gT_3 (i := 117) rfl rfl
set_option maxRecDepth 20000 in
theorem gw3_118 : (Cond.instanceMethod ⟨"GrassBridge", "cut", "(I)I"⟩) ∈ gT := gT_3 (i := 118) rfl rfl
set_option maxRecDepth 20000 in
theorem gw3_119 : (Cond.selects "GrassBridge" ⟨"GrassBridge", "cut", "(I)I"⟩ ⟨"GrassBridge", "cut", "(I)I"⟩) ∈ gT := gT_3 (i := 119) rfl rfl
set_option maxRecDepth 20000 in
theorem gw3_120 : (Cond.code ⟨"GrassBridge", "cut", "(I)I"⟩ prog_1_method_24_code (3 : Nat) (Option.some FieldType.int)) ∈ gT := gT_3 (i := 120) rfl rfl
set_option maxRecDepth 20000 in
theorem gw3_121 : (Cond.methodLink "GrassBridgeLaw" (73 : Nat) ⟨"GrassBridge", "tension", "(II)I"⟩) ∈ gT := gT_3 (i := 121) rfl rfl
set_option maxRecDepth 20000 in
theorem gw3_122 : (Cond.instanceMethod ⟨"GrassBridge", "tension", "(II)I"⟩) ∈ gT := gT_3 (i := 122) rfl rfl
set_option maxRecDepth 20000 in
theorem gw3_123 : (Cond.selects "GrassBridge" ⟨"GrassBridge", "tension", "(II)I"⟩ ⟨"GrassBridge", "tension", "(II)I"⟩) ∈ gT := gT_3 (i := 123) rfl rfl
set_option maxRecDepth 20000 in
theorem gw3_124 : (Cond.code ⟨"GrassBridge", "tension", "(II)I"⟩ prog_1_method_25_code (4 : Nat) (Option.some FieldType.int)) ∈ gT := gT_3 (i := 124) rfl rfl
set_option maxRecDepth 20000 in
theorem gw3_125 : (Cond.methodLink "GrassBridge" (226 : Nat) ⟨"GrassBridge$Span", "tighten", "(II)I"⟩) ∈ gT := gT_3 (i := 125) rfl rfl
set_option maxRecDepth 20000 in
theorem gw3_126 : (Cond.instanceMethod ⟨"GrassBridge$Span", "tighten", "(II)I"⟩) ∈ gT := gT_3 (i := 126) rfl rfl
set_option maxRecDepth 20000 in
theorem gw3_127 : (Cond.selects "GrassBridge$Span" ⟨"GrassBridge$Span", "tighten", "(II)I"⟩ ⟨"GrassBridge$Span", "tighten", "(II)I"⟩) ∈ gT := gT_3 (i := 127) rfl rfl
set_option maxRecDepth 20000 in
theorem gw3_128 : (Cond.code ⟨"GrassBridge$Span", "tighten", "(II)I"⟩ prog_11_method_6_code (4 : Nat) (Option.some FieldType.int)) ∈ gT := gT_3 (i := 128) rfl rfl
set_option maxRecDepth 20000 in
theorem gw3_129 : (Cond.methodLink "GrassBridgeLaw" (77 : Nat) ⟨"GrassBridge", "strength", "(I)I"⟩) ∈ gT := gT_3 (i := 129) rfl rfl
set_option maxRecDepth 20000 in
theorem gw3_130 : (Cond.instanceMethod ⟨"GrassBridge", "strength", "(I)I"⟩) ∈ gT := gT_3 (i := 130) rfl rfl
set_option maxRecDepth 20000 in
theorem gw3_131 : (Cond.selects "GrassBridge" ⟨"GrassBridge", "strength", "(I)I"⟩ ⟨"GrassBridge", "strength", "(I)I"⟩) ∈ gT := gT_3 (i := 131) rfl rfl
set_option maxRecDepth 20000 in
theorem gw3_132 : (Cond.code ⟨"GrassBridge", "strength", "(I)I"⟩ prog_1_method_26_code (2 : Nat) (Option.some FieldType.int)) ∈ gT := gT_3 (i := 132) rfl rfl
set_option maxRecDepth 20000 in
theorem gw3_133 : (Cond.methodLink "GrassBridgeLaw" (81 : Nat) ⟨"GrassBridge", "bears", "()I"⟩) ∈ gT := gT_3 (i := 133) rfl rfl
set_option maxRecDepth 20000 in
theorem gw3_134 : (Cond.instanceMethod ⟨"GrassBridge", "bears", "()I"⟩) ∈ gT := gT_3 (i := 134) rfl rfl
set_option maxRecDepth 20000 in
theorem gw3_135 : (Cond.selects "GrassBridge" ⟨"GrassBridge", "bears", "()I"⟩ ⟨"GrassBridge", "bears", "()I"⟩) ∈ gT := gT_3 (i := 135) rfl rfl
set_option maxRecDepth 20000 in
theorem gw3_136 : (Cond.code ⟨"GrassBridge", "bears", "()I"⟩ prog_1_method_27_code (1 : Nat) (Option.some FieldType.int)) ∈ gT := gT_3 (i := 136) rfl rfl
set_option maxRecDepth 20000 in
theorem gw3_137 : (Cond.methodLink "GrassBridge" (229 : Nat) ⟨"GrassBridge$Span", "bearing", "(II)I"⟩) ∈ gT := gT_3 (i := 137) rfl rfl
set_option maxRecDepth 20000 in
theorem gw3_138 : (Cond.instanceMethod ⟨"GrassBridge$Span", "bearing", "(II)I"⟩) ∈ gT := gT_3 (i := 138) rfl rfl
set_option maxRecDepth 20000 in
theorem gw3_139 : (Cond.selects "GrassBridge$Span" ⟨"GrassBridge$Span", "bearing", "(II)I"⟩ ⟨"GrassBridge$Span", "bearing", "(II)I"⟩) ∈ gT := gT_3 (i := 139) rfl rfl
set_option maxRecDepth 20000 in
theorem gw3_140 : (Cond.code ⟨"GrassBridge$Span", "bearing", "(II)I"⟩ prog_11_method_9_code (7 : Nat) (Option.some FieldType.int)) ∈ gT := gT_3 (i := 140) rfl rfl
set_option maxRecDepth 20000 in
theorem gw3_141 : (Cond.methodLink "GrassBridge$Span" (52 : Nat) ⟨"GrassBridge$Span", "strengthAt", "(III)I"⟩) ∈ gT := gT_3 (i := 141) rfl rfl
set_option maxRecDepth 20000 in
theorem gw3_142 : (Cond.methodLink "GrassBridge$Span" (56 : Nat) ⟨"java/lang/Math", "min", "(II)I"⟩) ∈ gT := gT_3 (i := 142) rfl rfl
set_option maxRecDepth 20000 in
theorem gw3_143 : (Cond.methodLink "GrassBridgeLaw" (85 : Nat) ⟨"GrassBridge", "load", "(I)I"⟩) ∈ gT := gT_3 (i := 143) rfl rfl
set_option maxRecDepth 20000 in
theorem gw3_144 : (Cond.instanceMethod ⟨"GrassBridge", "load", "(I)I"⟩) ∈ gT := gT_3 (i := 144) rfl rfl
set_option maxRecDepth 20000 in
theorem gw3_145 : (Cond.selects "GrassBridge" ⟨"GrassBridge", "load", "(I)I"⟩ ⟨"GrassBridge", "load", "(I)I"⟩) ∈ gT := gT_3 (i := 145) rfl rfl
set_option maxRecDepth 20000 in
theorem gw3_146 : (Cond.code ⟨"GrassBridge", "load", "(I)I"⟩ prog_1_method_28_code (3 : Nat) (Option.some FieldType.int)) ∈ gT := gT_3 (i := 146) rfl rfl
set_option maxRecDepth 20000 in
theorem gw3_147 : (Cond.methodLink "GrassBridge" (232 : Nat) ⟨"GrassBridge$Span", "lets", "(III)Z"⟩) ∈ gT := gT_3 (i := 147) rfl rfl
set_option maxRecDepth 20000 in
theorem gw3_148 : (Cond.instanceMethod ⟨"GrassBridge$Span", "lets", "(III)Z"⟩) ∈ gT := gT_3 (i := 148) rfl rfl
set_option maxRecDepth 20000 in
theorem gw3_149 : (Cond.selects "GrassBridge$Span" ⟨"GrassBridge$Span", "lets", "(III)Z"⟩ ⟨"GrassBridge$Span", "lets", "(III)Z"⟩) ∈ gT := gT_3 (i := 149) rfl rfl
set_option maxRecDepth 20000 in
theorem gw3_150 : (Cond.code ⟨"GrassBridge$Span", "lets", "(III)Z"⟩ prog_11_method_10_code (5 : Nat) (Option.some FieldType.boolean)) ∈ gT := gT_3 (i := 150) rfl rfl
set_option maxRecDepth 20000 in
theorem gw3_151 : (Cond.methodLink "GrassBridge$Span" (59 : Nat) ⟨"GrassBridge$Span", "bearing", "(II)I"⟩) ∈ gT := gT_3 (i := 151) rfl rfl
set_option maxRecDepth 20000 in
theorem gw3_152 : (Cond.methodLink "GrassBridgeLaw" (93 : Nat) ⟨"GrassBridge", "till", "(I)I"⟩) ∈ gT := gT_3 (i := 152) rfl rfl
set_option maxRecDepth 20000 in
theorem gw3_153 : (Cond.instanceMethod ⟨"GrassBridge", "till", "(I)I"⟩) ∈ gT := gT_3 (i := 153) rfl rfl
set_option maxRecDepth 20000 in
theorem gw3_154 : (Cond.selects "GrassBridge" ⟨"GrassBridge", "till", "(I)I"⟩ ⟨"GrassBridge", "till", "(I)I"⟩) ∈ gT := gT_3 (i := 154) rfl rfl
set_option maxRecDepth 20000 in
theorem gw3_155 : (Cond.code ⟨"GrassBridge", "till", "(I)I"⟩ prog_1_method_29_code (5 : Nat) (Option.some FieldType.int)) ∈ gT := gT_3 (i := 155) rfl rfl
set_option maxRecDepth 20000 in
theorem gw3_156 : (Cond.methodLink "GrassBridgeLaw" (97 : Nat) ⟨"GrassBridge", "broken", "(II)I"⟩) ∈ gT := gT_3 (i := 156) rfl rfl
set_option maxRecDepth 20000 in
theorem gw3_157 : (Cond.instanceMethod ⟨"GrassBridge", "broken", "(II)I"⟩) ∈ gT := gT_3 (i := 157) rfl rfl
set_option maxRecDepth 20000 in
theorem gw3_158 : (Cond.selects "GrassBridge" ⟨"GrassBridge", "broken", "(II)I"⟩ ⟨"GrassBridge", "broken", "(II)I"⟩) ∈ gT := gT_3 (i := 158) rfl rfl
set_option maxRecDepth 20000 in
theorem gw3_159 : (Cond.code ⟨"GrassBridge", "broken", "(II)I"⟩ prog_1_method_30_code (4 : Nat) (Option.some FieldType.int)) ∈ gT := gT_3 (i := 159) rfl rfl
set_option maxRecDepth 20000 in
theorem gw3_160 : (Cond.methodLink "GrassBridge" (236 : Nat) ⟨"GrassBridge$Breaks", "find", "(I)LGrassBridge$Break;"⟩) ∈ gT := gT_3 (i := 160) rfl rfl
set_option maxRecDepth 20000 in
theorem gw3_161 : (Cond.instanceMethod ⟨"GrassBridge$Breaks", "find", "(I)LGrassBridge$Break;"⟩) ∈ gT := gT_3 (i := 161) rfl rfl
set_option maxRecDepth 20000 in
theorem gw3_162 : (Cond.selects "GrassBridge$Breaks" ⟨"GrassBridge$Breaks", "find", "(I)LGrassBridge$Break;"⟩ ⟨"GrassBridge$Breaks", "find", "(I)LGrassBridge$Break;"⟩) ∈ gT := gT_3 (i := 162) rfl rfl
set_option maxRecDepth 20000 in
theorem gw3_163 : (Cond.code ⟨"GrassBridge$Breaks", "find", "(I)LGrassBridge$Break;"⟩ prog_3_method_2_code (2 : Nat) (Option.some (FieldType.object "GrassBridge$Break"))) ∈ gT := gT_3 (i := 163) rfl rfl
set_option maxRecDepth 20000 in
theorem gw3_164 : (Cond.methodLink "GrassBridgeLaw" (101 : Nat) ⟨"GrassBridge", "blame", "(II)I"⟩) ∈ gT := gT_3 (i := 164) rfl rfl
set_option maxRecDepth 20000 in
theorem gw3_165 : (Cond.instanceMethod ⟨"GrassBridge", "blame", "(II)I"⟩) ∈ gT := gT_3 (i := 165) rfl rfl
set_option maxRecDepth 20000 in
theorem gw3_166 : (Cond.selects "GrassBridge" ⟨"GrassBridge", "blame", "(II)I"⟩ ⟨"GrassBridge", "blame", "(II)I"⟩) ∈ gT := gT_3 (i := 166) rfl rfl
set_option maxRecDepth 20000 in
theorem gw3_167 : (Cond.code ⟨"GrassBridge", "blame", "(II)I"⟩ prog_1_method_31_code (4 : Nat) (Option.some FieldType.int)) ∈ gT := gT_3 (i := 167) rfl rfl
set_option maxRecDepth 20000 in
theorem gw3_168 : (Cond.methodLink "GrassBridge" (247 : Nat) ⟨"GrassBridge$Rope", "weakestOf", "(I)I"⟩) ∈ gT := gT_3 (i := 168) rfl rfl
set_option maxRecDepth 20000 in
theorem gw3_169 : (Cond.instanceMethod ⟨"GrassBridge$Rope", "weakestOf", "(I)I"⟩) ∈ gT := gT_3 (i := 169) rfl rfl
set_option maxRecDepth 20000 in
theorem gw3_170 : (Cond.selects "GrassBridge$Rope" ⟨"GrassBridge$Rope", "weakestOf", "(I)I"⟩ ⟨"GrassBridge$Rope", "weakestOf", "(I)I"⟩) ∈ gT := gT_3 (i := 170) rfl rfl
set_option maxRecDepth 20000 in
theorem gw3_171 : (Cond.code ⟨"GrassBridge$Rope", "weakestOf", "(I)I"⟩ prog_8_method_4_code (5 : Nat) (Option.some FieldType.int)) ∈ gT := gT_3 (i := 171) rfl rfl
set_option maxRecDepth 20000 in
theorem gw3_172 : (Cond.methodLink "GrassBridge$Rope" (43 : Nat) ⟨"java/lang/Math", "min", "(II)I"⟩) ∈ gT := gT_3 (i := 172) rfl rfl
set_option maxRecDepth 20000 in
theorem gw3_173 : (Cond.methodLink "GrassBridgeLaw" (109 : Nat) ⟨"GrassBridge", "step", "(IIIII)I"⟩) ∈ gT := gT_3 (i := 173) rfl rfl
set_option maxRecDepth 20000 in
theorem gw3_174 : (Cond.instanceMethod ⟨"GrassBridge", "step", "(IIIII)I"⟩) ∈ gT := gT_3 (i := 174) rfl rfl
set_option maxRecDepth 20000 in
theorem gw3_175 : (Cond.selects "GrassBridge" ⟨"GrassBridge", "step", "(IIIII)I"⟩ ⟨"GrassBridge", "step", "(IIIII)I"⟩) ∈ gT := gT_3 (i := 175) rfl rfl
set_option maxRecDepth 20000 in
theorem gw3_176 : (Cond.code ⟨"GrassBridge", "step", "(IIIII)I"⟩ prog_1_method_32_code (8 : Nat) (Option.some FieldType.int)) ∈ gT := gT_3 (i := 176) rfl rfl
set_option maxRecDepth 20000 in
theorem gw3_177 : (Cond.methodLink "GrassBridge" (250 : Nat) ⟨"java/lang/Math", "floorDiv", "(II)I"⟩) ∈ gT := gT_3 (i := 177) rfl rfl
set_option maxRecDepth 20000 in
theorem gw3_178 : (Cond.static ⟨"java/lang/Math", "floorDiv", "(II)I"⟩) ∈ gT := gT_3 (i := 178) rfl rfl
set_option maxRecDepth 20000 in
theorem gw3_179 : (Cond.code ⟨"java/lang/Math", "floorDiv", "(II)I"⟩ prog_16_method_47_code (3 : Nat) (Option.some FieldType.int)) ∈ gT := gT_3 (i := 179) rfl rfl
set_option maxRecDepth 20000 in
theorem gw3_180 : (Cond.methodLink "GrassBridge" (255 : Nat) ⟨"GrassBridge$Work", "areTold", "(I)Z"⟩) ∈ gT := gT_3 (i := 180) rfl rfl
set_option maxRecDepth 20000 in
theorem gw3_181 : (Cond.instanceMethod ⟨"GrassBridge$Work", "areTold", "(I)Z"⟩) ∈ gT := gT_3 (i := 181) rfl rfl
set_option maxRecDepth 20000 in
theorem gw3_182 : (Cond.selects "GrassBridge$Work" ⟨"GrassBridge$Work", "areTold", "(I)Z"⟩ ⟨"GrassBridge$Work", "areTold", "(I)Z"⟩) ∈ gT := gT_3 (i := 182) rfl rfl
set_option maxRecDepth 20000 in
theorem gw3_183 : (Cond.code ⟨"GrassBridge$Work", "areTold", "(I)Z"⟩ prog_12_method_2_code (2 : Nat) (Option.some FieldType.boolean)) ∈ gT := gT_3 (i := 183) rfl rfl
set_option maxRecDepth 20000 in
theorem gw3_184 : (Cond.methodLink "GrassBridge" (259 : Nat) ⟨"GrassBridge$Work", "tell", "(IIIII)I"⟩) ∈ gT := gT_3 (i := 184) rfl rfl
set_option maxRecDepth 20000 in
theorem gw3_185 : (Cond.instanceMethod ⟨"GrassBridge$Work", "tell", "(IIIII)I"⟩) ∈ gT := gT_3 (i := 185) rfl rfl
set_option maxRecDepth 20000 in
theorem gw3_186 : (Cond.selects "GrassBridge$Work" ⟨"GrassBridge$Work", "tell", "(IIIII)I"⟩ ⟨"GrassBridge$Work", "tell", "(IIIII)I"⟩) ∈ gT := gT_3 (i := 186) rfl rfl
set_option maxRecDepth 20000 in
theorem gw3_187 : (Cond.code ⟨"GrassBridge$Work", "tell", "(IIIII)I"⟩ prog_12_method_3_code (6 : Nat) (Option.some FieldType.int)) ∈ gT := gT_3 (i := 187) rfl rfl
set_option maxRecDepth 20000 in
theorem gw3_188 : (Cond.methodLink "GrassBridgeLaw" (114 : Nat) ⟨"GrassBridge", "clear", "()I"⟩) ∈ gT := gT_3 (i := 188) rfl rfl
set_option maxRecDepth 20000 in
theorem gw3_189 : (Cond.instanceMethod ⟨"GrassBridge", "clear", "()I"⟩) ∈ gT := gT_3 (i := 189) rfl rfl
set_option maxRecDepth 20000 in
theorem gw3_190 : (Cond.selects "GrassBridge" ⟨"GrassBridge", "clear", "()I"⟩ ⟨"GrassBridge", "clear", "()I"⟩) ∈ gT := gT_3 (i := 190) rfl rfl
set_option maxRecDepth 20000 in
theorem gw3_191 : (Cond.code ⟨"GrassBridge", "clear", "()I"⟩ prog_1_method_33_code (1 : Nat) (Option.some FieldType.int)) ∈ gT := gT_3 (i := 191) rfl rfl
set_option maxRecDepth 20000 in
theorem gw3_192 : (Cond.methodLink "GrassBridge" (262 : Nat) ⟨"GrassBridge$Work", "forget", "()I"⟩) ∈ gT := gT_3 (i := 192) rfl rfl
set_option maxRecDepth 20000 in
theorem gw3_193 : (Cond.instanceMethod ⟨"GrassBridge$Work", "forget", "()I"⟩) ∈ gT := gT_3 (i := 193) rfl rfl
set_option maxRecDepth 20000 in
theorem gw3_194 : (Cond.selects "GrassBridge$Work" ⟨"GrassBridge$Work", "forget", "()I"⟩ ⟨"GrassBridge$Work", "forget", "()I"⟩) ∈ gT := gT_3 (i := 194) rfl rfl
set_option maxRecDepth 20000 in
theorem gw3_195 : (Cond.code ⟨"GrassBridge$Work", "forget", "()I"⟩ prog_12_method_4_code (2 : Nat) (Option.some FieldType.int)) ∈ gT := gT_3 (i := 195) rfl rfl
set_option maxRecDepth 20000 in
theorem gw3_196 : (Cond.methodLink "GrassBridgeLaw" (118 : Nat) ⟨"GrassBridge", "plan", "()I"⟩) ∈ gT := gT_3 (i := 196) rfl rfl
set_option maxRecDepth 20000 in
theorem gw3_197 : (Cond.instanceMethod ⟨"GrassBridge", "plan", "()I"⟩) ∈ gT := gT_3 (i := 197) rfl rfl
set_option maxRecDepth 20000 in
theorem gw3_198 : (Cond.selects "GrassBridge" ⟨"GrassBridge", "plan", "()I"⟩ ⟨"GrassBridge", "plan", "()I"⟩) ∈ gT := gT_3 (i := 198) rfl rfl
set_option maxRecDepth 20000 in
theorem gw3_199 : (Cond.code ⟨"GrassBridge", "plan", "()I"⟩ prog_1_method_34_code (1 : Nat) (Option.some FieldType.int)) ∈ gT := gT_3 (i := 199) rfl rfl
set_option maxRecDepth 20000 in
theorem gw3_200 : (Cond.methodLink "GrassBridge" (265 : Nat) ⟨"GrassBridge$Span", "hungSet", "()I"⟩) ∈ gT := gT_3 (i := 200) rfl rfl
set_option maxRecDepth 20000 in
theorem gw3_201 : (Cond.instanceMethod ⟨"GrassBridge$Span", "hungSet", "()I"⟩) ∈ gT := gT_3 (i := 201) rfl rfl
set_option maxRecDepth 20000 in
theorem gw3_202 : (Cond.selects "GrassBridge$Span" ⟨"GrassBridge$Span", "hungSet", "()I"⟩ ⟨"GrassBridge$Span", "hungSet", "()I"⟩) ∈ gT := gT_3 (i := 202) rfl rfl
set_option maxRecDepth 20000 in
theorem gw3_203 : (Cond.code ⟨"GrassBridge$Span", "hungSet", "()I"⟩ prog_11_method_11_code (3 : Nat) (Option.some FieldType.int)) ∈ gT := gT_3 (i := 203) rfl rfl
set_option maxRecDepth 20000 in
theorem gw3_204 : (Cond.methodLink "GrassBridge" (268 : Nat) ⟨"GrassBridge$Houses", "handsHere", "()I"⟩) ∈ gT := gT_3 (i := 204) rfl rfl
set_option maxRecDepth 20000 in
theorem gw3_205 : (Cond.methodLink "GrassBridge" (271 : Nat) ⟨"GrassBridge$Planner", "see", "(II)V"⟩) ∈ gT := gT_3 (i := 205) rfl rfl
set_option maxRecDepth 20000 in
theorem gw3_206 : (Cond.instanceMethod ⟨"GrassBridge$Planner", "see", "(II)V"⟩) ∈ gT := gT_3 (i := 206) rfl rfl
set_option maxRecDepth 20000 in
theorem gw3_207 : (Cond.selects "GrassBridge$Planner" ⟨"GrassBridge$Planner", "see", "(II)V"⟩ ⟨"GrassBridge$Planner", "see", "(II)V"⟩) ∈ gT := gT_3 (i := 207) rfl rfl
set_option maxRecDepth 20000 in
theorem gw3_208 : (Cond.code ⟨"GrassBridge$Planner", "see", "(II)V"⟩ prog_7_method_4_code (3 : Nat) (Option.none : Option FieldType)) ∈ gT := gT_3 (i := 208) rfl rfl
set_option maxRecDepth 20000 in
theorem gw3_209 : (Cond.methodLink "GrassBridge$Planner" (62 : Nat) ⟨"GrassBridge$Planner", "sumSets", "()V"⟩) ∈ gT := gT_3 (i := 209) rfl rfl
set_option maxRecDepth 20000 in
theorem gw3_211 : (Cond.instanceMethod ⟨"GrassBridge$Planner", "sumSets", "()V"⟩) ∈ gT := gT_3 (i := 211) rfl rfl
set_option maxRecDepth 20000 in
theorem gw3_212 : (Cond.code ⟨"GrassBridge$Planner", "sumSets", "()V"⟩ prog_7_method_5_code (6 : Nat) (Option.none : Option FieldType)) ∈ gT := gT_3 (i := 212) rfl rfl
set_option maxRecDepth 20000 in
theorem gw3_213 : (Cond.methodLink "GrassBridge$Planner" (89 : Nat) ⟨"java/lang/Math", "max", "(II)I"⟩) ∈ gT := gT_3 (i := 213) rfl rfl
set_option maxRecDepth 20000 in
theorem gw3_214 : (Cond.methodLink "GrassBridge$Planner" (65 : Nat) ⟨"GrassBridge$Planner", "measureRests", "()V"⟩) ∈ gT := gT_3 (i := 214) rfl rfl
set_option maxRecDepth 20000 in
theorem gw3_216 : (Cond.instanceMethod ⟨"GrassBridge$Planner", "measureRests", "()V"⟩) ∈ gT := gT_3 (i := 216) rfl rfl
set_option maxRecDepth 20000 in
theorem gw3_217 : (Cond.code ⟨"GrassBridge$Planner", "measureRests", "()V"⟩ prog_7_method_6_code (3 : Nat) (Option.none : Option FieldType)) ∈ gT := gT_3 (i := 217) rfl rfl
set_option maxRecDepth 20000 in
theorem gw3_218 : (Cond.methodLink "GrassBridge$Planner" (95 : Nat) ⟨"GrassBridge$Planner", "openFrom", "(I)I"⟩) ∈ gT := gT_3 (i := 218) rfl rfl
set_option maxRecDepth 20000 in
theorem gw3_220 : (Cond.instanceMethod ⟨"GrassBridge$Planner", "openFrom", "(I)I"⟩) ∈ gT := gT_3 (i := 220) rfl rfl
set_option maxRecDepth 20000 in
theorem gw3_221 : (Cond.code ⟨"GrassBridge$Planner", "openFrom", "(I)I"⟩ prog_7_method_9_code (4 : Nat) (Option.some FieldType.int)) ∈ gT := gT_3 (i := 221) rfl rfl
set_option maxRecDepth 20000 in
theorem gw3_222 : (Cond.methodLink "GrassBridge$Planner" (102 : Nat) ⟨"GrassBridge$Planner", "may", "(II)Z"⟩) ∈ gT := gT_3 (i := 222) rfl rfl
set_option maxRecDepth 20000 in
theorem gw3_224 : (Cond.instanceMethod ⟨"GrassBridge$Planner", "may", "(II)Z"⟩) ∈ gT := gT_3 (i := 224) rfl rfl
set_option maxRecDepth 20000 in
theorem gw3_225 : (Cond.code ⟨"GrassBridge$Planner", "may", "(II)Z"⟩ prog_7_method_10_code (7 : Nat) (Option.some FieldType.boolean)) ∈ gT := gT_3 (i := 225) rfl rfl
set_option maxRecDepth 20000 in
theorem gw3_226 : (Cond.methodLink "GrassBridge$Planner" (116 : Nat) ⟨"java/lang/Integer", "bitCount", "(I)I"⟩) ∈ gT := gT_3 (i := 226) rfl rfl
set_option maxRecDepth 20000 in
theorem gw3_227 : (Cond.static ⟨"java/lang/Integer", "bitCount", "(I)I"⟩) ∈ gT := gT_3 (i := 227) rfl rfl
set_option maxRecDepth 20000 in
theorem gw3_228 : (Cond.code ⟨"java/lang/Integer", "bitCount", "(I)I"⟩ prog_15_method_49_code (1 : Nat) (Option.some FieldType.int)) ∈ gT := gT_3 (i := 228) rfl rfl
set_option maxRecDepth 20000 in
theorem gw3_229 : (Cond.constant "java/lang/Integer" (265 : Nat) (1431655765 : Int32)) ∈ gT := gT_3 (i := 229) rfl rfl
set_option maxRecDepth 20000 in
theorem gw3_230 : (Cond.constant "java/lang/Integer" (266 : Nat) (858993459 : Int32)) ∈ gT := gT_3 (i := 230) rfl rfl
set_option maxRecDepth 20000 in
theorem gw3_231 : (Cond.constant "java/lang/Integer" (267 : Nat) (252645135 : Int32)) ∈ gT := gT_3 (i := 231) rfl rfl
set_option maxRecDepth 20000 in
theorem gw3_232 : (Cond.methodLink "GrassBridge$Planner" (99 : Nat) ⟨"GrassBridge$Planner", "restFrom", "(I)I"⟩) ∈ gT := gT_3 (i := 232) rfl rfl
set_option maxRecDepth 20000 in
theorem gw3_234 : (Cond.instanceMethod ⟨"GrassBridge$Planner", "restFrom", "(I)I"⟩) ∈ gT := gT_3 (i := 234) rfl rfl
set_option maxRecDepth 20000 in
theorem gw3_235 : (Cond.code ⟨"GrassBridge$Planner", "restFrom", "(I)I"⟩ prog_7_method_7_code (5 : Nat) (Option.some FieldType.int)) ∈ gT := gT_3 (i := 235) rfl rfl
set_option maxRecDepth 20000 in
theorem gw3_236 : (Cond.constant "GrassBridge$Planner" (50 : Nat) (1000000 : Int32)) ∈ gT := gT_3 (i := 236) rfl rfl
set_option maxRecDepth 20000 in
theorem gw3_237 : (Cond.methodLink "GrassBridge$Planner" (106 : Nat) ⟨"GrassBridge$Planner", "restGrouped", "(III)I"⟩) ∈ gT := gT_3 (i := 237) rfl rfl
set_option maxRecDepth 20000 in
theorem gw3_239 : (Cond.instanceMethod ⟨"GrassBridge$Planner", "restGrouped", "(III)I"⟩) ∈ gT := gT_3 (i := 239) rfl rfl
set_option maxRecDepth 20000 in
theorem gw4_0 : (Cond.code ⟨"GrassBridge$Planner", "restGrouped", "(III)I"⟩ prog_7_method_8_code (8 : Nat) (Option.some FieldType.int)) ∈ gT := gT_4 (i := 0) rfl rfl
set_option maxRecDepth 20000 in
theorem gw4_1 : (Cond.methodLink "GrassBridge$Planner" (110 : Nat) ⟨"java/lang/Math", "min", "(II)I"⟩) ∈ gT := gT_4 (i := 1) rfl rfl
set_option maxRecDepth 20000 in
theorem gw4_2 : (Cond.methodLink "GrassBridge$Planner" (68 : Nat) ⟨"GrassBridge$Planner", "chooseRow", "()V"⟩) ∈ gT := gT_4 (i := 2) rfl rfl
set_option maxRecDepth 20000 in
theorem gw4_4 : (Cond.instanceMethod ⟨"GrassBridge$Planner", "chooseRow", "()V"⟩) ∈ gT := gT_4 (i := 4) rfl rfl
set_option maxRecDepth 20000 in
theorem gw4_5 : (Cond.code ⟨"GrassBridge$Planner", "chooseRow", "()V"⟩ prog_7_method_11_code (3 : Nat) (Option.none : Option FieldType)) ∈ gT := gT_4 (i := 5) rfl rfl
set_option maxRecDepth 20000 in
theorem gw4_6 : (Cond.methodLink "GrassBridge$Planner" (121 : Nat) ⟨"GrassBridge$Planner", "firstOfBest", "(I)I"⟩) ∈ gT := gT_4 (i := 6) rfl rfl
set_option maxRecDepth 20000 in
theorem gw4_8 : (Cond.instanceMethod ⟨"GrassBridge$Planner", "firstOfBest", "(I)I"⟩) ∈ gT := gT_4 (i := 8) rfl rfl
set_option maxRecDepth 20000 in
theorem gw4_9 : (Cond.code ⟨"GrassBridge$Planner", "firstOfBest", "(I)I"⟩ prog_7_method_12_code (4 : Nat) (Option.some FieldType.int)) ∈ gT := gT_4 (i := 9) rfl rfl
set_option maxRecDepth 20000 in
theorem gw4_10 : (Cond.methodLink "GrassBridge$Planner" (127 : Nat) ⟨"GrassBridge$Planner", "daysWith", "(II)I"⟩) ∈ gT := gT_4 (i := 10) rfl rfl
set_option maxRecDepth 20000 in
theorem gw4_12 : (Cond.instanceMethod ⟨"GrassBridge$Planner", "daysWith", "(II)I"⟩) ∈ gT := gT_4 (i := 12) rfl rfl
set_option maxRecDepth 20000 in
theorem gw4_13 : (Cond.code ⟨"GrassBridge$Planner", "daysWith", "(II)I"⟩ prog_7_method_13_code (8 : Nat) (Option.some FieldType.int)) ∈ gT := gT_4 (i := 13) rfl rfl
set_option maxRecDepth 20000 in
theorem gw4_14 : (Cond.methodLink "GrassBridge$Planner" (124 : Nat) ⟨"GrassBridge$Planner", "spentWith", "(I)I"⟩) ∈ gT := gT_4 (i := 14) rfl rfl
set_option maxRecDepth 20000 in
theorem gw4_16 : (Cond.instanceMethod ⟨"GrassBridge$Planner", "spentWith", "(I)I"⟩) ∈ gT := gT_4 (i := 16) rfl rfl
set_option maxRecDepth 20000 in
theorem gw4_17 : (Cond.code ⟨"GrassBridge$Planner", "spentWith", "(I)I"⟩ prog_7_method_14_code (5 : Nat) (Option.some FieldType.int)) ∈ gT := gT_4 (i := 17) rfl rfl
set_option maxRecDepth 20000 in
theorem gw4_18 : (Cond.methodLink "GrassBridge" (275 : Nat) ⟨"GrassBridge$Planner", "fewestDays", "()I"⟩) ∈ gT := gT_4 (i := 18) rfl rfl
set_option maxRecDepth 20000 in
theorem gw4_19 : (Cond.instanceMethod ⟨"GrassBridge$Planner", "fewestDays", "()I"⟩) ∈ gT := gT_4 (i := 19) rfl rfl
set_option maxRecDepth 20000 in
theorem gw4_20 : (Cond.selects "GrassBridge$Planner" ⟨"GrassBridge$Planner", "fewestDays", "()I"⟩ ⟨"GrassBridge$Planner", "fewestDays", "()I"⟩) ∈ gT := gT_4 (i := 20) rfl rfl
set_option maxRecDepth 20000 in
theorem gw4_21 : (Cond.code ⟨"GrassBridge$Planner", "fewestDays", "()I"⟩ prog_7_method_2_code (1 : Nat) (Option.some FieldType.int)) ∈ gT := gT_4 (i := 21) rfl rfl
set_option maxRecDepth 20000 in
theorem gw4_22 : (Cond.methodLink "GrassBridgeLaw" (122 : Nat) ⟨"GrassBridge", "planAt", "(I)I"⟩) ∈ gT := gT_4 (i := 22) rfl rfl
set_option maxRecDepth 20000 in
theorem gw4_23 : (Cond.instanceMethod ⟨"GrassBridge", "planAt", "(I)I"⟩) ∈ gT := gT_4 (i := 23) rfl rfl
set_option maxRecDepth 20000 in
theorem gw4_24 : (Cond.selects "GrassBridge" ⟨"GrassBridge", "planAt", "(I)I"⟩ ⟨"GrassBridge", "planAt", "(I)I"⟩) ∈ gT := gT_4 (i := 24) rfl rfl
set_option maxRecDepth 20000 in
theorem gw4_25 : (Cond.code ⟨"GrassBridge", "planAt", "(I)I"⟩ prog_1_method_35_code (2 : Nat) (Option.some FieldType.int)) ∈ gT := gT_4 (i := 25) rfl rfl
set_option maxRecDepth 20000 in
theorem gw4_26 : (Cond.methodLink "GrassBridge" (278 : Nat) ⟨"GrassBridge$Planner", "stepAt", "(I)I"⟩) ∈ gT := gT_4 (i := 26) rfl rfl
set_option maxRecDepth 20000 in
theorem gw4_27 : (Cond.instanceMethod ⟨"GrassBridge$Planner", "stepAt", "(I)I"⟩) ∈ gT := gT_4 (i := 27) rfl rfl
set_option maxRecDepth 20000 in
theorem gw4_28 : (Cond.selects "GrassBridge$Planner" ⟨"GrassBridge$Planner", "stepAt", "(I)I"⟩ ⟨"GrassBridge$Planner", "stepAt", "(I)I"⟩) ∈ gT := gT_4 (i := 28) rfl rfl
set_option maxRecDepth 20000 in
theorem gw4_29 : (Cond.code ⟨"GrassBridge$Planner", "stepAt", "(I)I"⟩ prog_7_method_3_code (2 : Nat) (Option.some FieldType.int)) ∈ gT := gT_4 (i := 29) rfl rfl
set_option maxRecDepth 20000 in
theorem gw4_30 : (Cond.methodLink "GrassBridgeLaw" (126 : Nat) ⟨"GrassBridge", "person", "(II)I"⟩) ∈ gT := gT_4 (i := 30) rfl rfl
set_option maxRecDepth 20000 in
theorem gw4_31 : (Cond.instanceMethod ⟨"GrassBridge", "person", "(II)I"⟩) ∈ gT := gT_4 (i := 31) rfl rfl
set_option maxRecDepth 20000 in
theorem gw4_32 : (Cond.selects "GrassBridge" ⟨"GrassBridge", "person", "(II)I"⟩ ⟨"GrassBridge", "person", "(II)I"⟩) ∈ gT := gT_4 (i := 32) rfl rfl
set_option maxRecDepth 20000 in
theorem gw4_33 : (Cond.code ⟨"GrassBridge", "person", "(II)I"⟩ prog_1_method_36_code (4 : Nat) (Option.some FieldType.int)) ∈ gT := gT_4 (i := 33) rfl rfl
set_option maxRecDepth 20000 in
theorem gw4_34 : (Cond.methodLink "GrassBridge" (281 : Nat) ⟨"GrassBridge$People", "isKnown", "(I)Z"⟩) ∈ gT := gT_4 (i := 34) rfl rfl
set_option maxRecDepth 20000 in
theorem gw4_35 : (Cond.instanceMethod ⟨"GrassBridge$People", "isKnown", "(I)Z"⟩) ∈ gT := gT_4 (i := 35) rfl rfl
set_option maxRecDepth 20000 in
theorem gw4_36 : (Cond.selects "GrassBridge$People" ⟨"GrassBridge$People", "isKnown", "(I)Z"⟩ ⟨"GrassBridge$People", "isKnown", "(I)Z"⟩) ∈ gT := gT_4 (i := 36) rfl rfl
set_option maxRecDepth 20000 in
theorem gw4_37 : (Cond.code ⟨"GrassBridge$People", "isKnown", "(I)Z"⟩ prog_6_method_2_code (2 : Nat) (Option.some FieldType.boolean)) ∈ gT := gT_4 (i := 37) rfl rfl
set_option maxRecDepth 20000 in
theorem gw4_38 : (Cond.methodLink "GrassBridge" (285 : Nat) ⟨"GrassBridge$People", "birthOf", "(I)I"⟩) ∈ gT := gT_4 (i := 38) rfl rfl
set_option maxRecDepth 20000 in
theorem gw4_39 : (Cond.instanceMethod ⟨"GrassBridge$People", "birthOf", "(I)I"⟩) ∈ gT := gT_4 (i := 39) rfl rfl
set_option maxRecDepth 20000 in
theorem gw4_40 : (Cond.selects "GrassBridge$People" ⟨"GrassBridge$People", "birthOf", "(I)I"⟩ ⟨"GrassBridge$People", "birthOf", "(I)I"⟩) ∈ gT := gT_4 (i := 40) rfl rfl
set_option maxRecDepth 20000 in
theorem gw4_41 : (Cond.code ⟨"GrassBridge$People", "birthOf", "(I)I"⟩ prog_6_method_3_code (2 : Nat) (Option.some FieldType.int)) ∈ gT := gT_4 (i := 41) rfl rfl
set_option maxRecDepth 20000 in
theorem gw4_42 : (Cond.methodLink "GrassBridge$People" (29 : Nat) ⟨"GrassBridge$People", "isKnown", "(I)Z"⟩) ∈ gT := gT_4 (i := 42) rfl rfl
set_option maxRecDepth 20000 in
theorem gw4_43 : (Cond.methodLink "GrassBridge" (288 : Nat) ⟨"GrassBridge$People", "add", "(II)I"⟩) ∈ gT := gT_4 (i := 43) rfl rfl
set_option maxRecDepth 20000 in
theorem gw4_44 : (Cond.instanceMethod ⟨"GrassBridge$People", "add", "(II)I"⟩) ∈ gT := gT_4 (i := 44) rfl rfl
set_option maxRecDepth 20000 in
theorem gw4_45 : (Cond.selects "GrassBridge$People" ⟨"GrassBridge$People", "add", "(II)I"⟩ ⟨"GrassBridge$People", "add", "(II)I"⟩) ∈ gT := gT_4 (i := 45) rfl rfl
set_option maxRecDepth 20000 in
theorem gw4_46 : (Cond.code ⟨"GrassBridge$People", "add", "(II)I"⟩ prog_6_method_4_code (3 : Nat) (Option.some FieldType.int)) ∈ gT := gT_4 (i := 46) rfl rfl
set_option maxRecDepth 20000 in
theorem gw4_47 : (Cond.methodLink "GrassBridgeLaw" (130 : Nat) ⟨"GrassBridge", "alive", "(IZ)I"⟩) ∈ gT := gT_4 (i := 47) rfl rfl
set_option maxRecDepth 20000 in
theorem gw4_48 : (Cond.instanceMethod ⟨"GrassBridge", "alive", "(IZ)I"⟩) ∈ gT := gT_4 (i := 48) rfl rfl
set_option maxRecDepth 20000 in
theorem gw4_49 : (Cond.selects "GrassBridge" ⟨"GrassBridge", "alive", "(IZ)I"⟩ ⟨"GrassBridge", "alive", "(IZ)I"⟩) ∈ gT := gT_4 (i := 49) rfl rfl
set_option maxRecDepth 20000 in
theorem gw4_50 : (Cond.code ⟨"GrassBridge", "alive", "(IZ)I"⟩ prog_1_method_37_code (3 : Nat) (Option.some FieldType.int)) ∈ gT := gT_4 (i := 50) rfl rfl
set_option maxRecDepth 20000 in
theorem gw4_51 : (Cond.methodLink "GrassBridge" (291 : Nat) ⟨"GrassBridge$People", "turn", "(IZ)Z"⟩) ∈ gT := gT_4 (i := 51) rfl rfl
set_option maxRecDepth 20000 in
theorem gw4_52 : (Cond.instanceMethod ⟨"GrassBridge$People", "turn", "(IZ)Z"⟩) ∈ gT := gT_4 (i := 52) rfl rfl
set_option maxRecDepth 20000 in
theorem gw4_53 : (Cond.selects "GrassBridge$People" ⟨"GrassBridge$People", "turn", "(IZ)Z"⟩ ⟨"GrassBridge$People", "turn", "(IZ)Z"⟩) ∈ gT := gT_4 (i := 53) rfl rfl
set_option maxRecDepth 20000 in
theorem gw4_54 : (Cond.code ⟨"GrassBridge$People", "turn", "(IZ)Z"⟩ prog_6_method_5_code (3 : Nat) (Option.some FieldType.boolean)) ∈ gT := gT_4 (i := 54) rfl rfl
set_option maxRecDepth 20000 in
theorem gw4_55 : (Cond.methodLink "GrassBridgeLaw" (135 : Nat) ⟨"GrassBridge", "master", "()I"⟩) ∈ gT := gT_4 (i := 55) rfl rfl
set_option maxRecDepth 20000 in
theorem gw4_56 : (Cond.instanceMethod ⟨"GrassBridge", "master", "()I"⟩) ∈ gT := gT_4 (i := 56) rfl rfl
set_option maxRecDepth 20000 in
theorem gw4_57 : (Cond.selects "GrassBridge" ⟨"GrassBridge", "master", "()I"⟩ ⟨"GrassBridge", "master", "()I"⟩) ∈ gT := gT_4 (i := 57) rfl rfl
set_option maxRecDepth 20000 in
theorem gw4_58 : (Cond.code ⟨"GrassBridge", "master", "()I"⟩ prog_1_method_38_code (1 : Nat) (Option.some FieldType.int)) ∈ gT := gT_4 (i := 58) rfl rfl
set_option maxRecDepth 20000 in
theorem gw4_59 : (Cond.methodLink "GrassBridge" (294 : Nat) ⟨"GrassBridge$People", "firstOfAge", "(I)I"⟩) ∈ gT := gT_4 (i := 59) rfl rfl
set_option maxRecDepth 20000 in
theorem gw4_60 : (Cond.instanceMethod ⟨"GrassBridge$People", "firstOfAge", "(I)I"⟩) ∈ gT := gT_4 (i := 60) rfl rfl
set_option maxRecDepth 20000 in
theorem gw4_61 : (Cond.selects "GrassBridge$People" ⟨"GrassBridge$People", "firstOfAge", "(I)I"⟩ ⟨"GrassBridge$People", "firstOfAge", "(I)I"⟩) ∈ gT := gT_4 (i := 61) rfl rfl
set_option maxRecDepth 20000 in
theorem gw4_62 : (Cond.code ⟨"GrassBridge$People", "firstOfAge", "(I)I"⟩ prog_6_method_6_code (4 : Nat) (Option.some FieldType.int)) ∈ gT := gT_4 (i := 62) rfl rfl
set_option maxRecDepth 20000 in
theorem gw4_63 : (Cond.methodLink "GrassBridge$People" (33 : Nat) ⟨"GrassBridge$People", "nextOf", "(II)I"⟩) ∈ gT := gT_4 (i := 63) rfl rfl
set_option maxRecDepth 20000 in
theorem gw4_65 : (Cond.instanceMethod ⟨"GrassBridge$People", "nextOf", "(II)I"⟩) ∈ gT := gT_4 (i := 65) rfl rfl
set_option maxRecDepth 20000 in
theorem gw4_66 : (Cond.code ⟨"GrassBridge$People", "nextOf", "(II)I"⟩ prog_6_method_8_code (6 : Nat) (Option.some FieldType.int)) ∈ gT := gT_4 (i := 66) rfl rfl
set_option maxRecDepth 20000 in
theorem gw4_67 : (Cond.methodLink "GrassBridge$People" (37 : Nat) ⟨"GrassBridge$People", "behind", "(I)I"⟩) ∈ gT := gT_4 (i := 67) rfl rfl
set_option maxRecDepth 20000 in
theorem gw4_69 : (Cond.instanceMethod ⟨"GrassBridge$People", "behind", "(I)I"⟩) ∈ gT := gT_4 (i := 69) rfl rfl
set_option maxRecDepth 20000 in
theorem gw4_70 : (Cond.code ⟨"GrassBridge$People", "behind", "(I)I"⟩ prog_6_method_7_code (5 : Nat) (Option.some FieldType.int)) ∈ gT := gT_4 (i := 70) rfl rfl
set_option maxRecDepth 20000 in
theorem gw4_71 : (Cond.methodLink "GrassBridgeLaw" (143 : Nat) ⟨"GrassBridge", "count", "(I)I"⟩) ∈ gT := gT_4 (i := 71) rfl rfl
set_option maxRecDepth 20000 in
theorem gw4_72 : (Cond.instanceMethod ⟨"GrassBridge", "count", "(I)I"⟩) ∈ gT := gT_4 (i := 72) rfl rfl
set_option maxRecDepth 20000 in
theorem gw4_73 : (Cond.selects "GrassBridge" ⟨"GrassBridge", "count", "(I)I"⟩ ⟨"GrassBridge", "count", "(I)I"⟩) ∈ gT := gT_4 (i := 73) rfl rfl
set_option maxRecDepth 20000 in
theorem gw4_74 : (Cond.code ⟨"GrassBridge", "count", "(I)I"⟩ prog_1_method_39_code (2 : Nat) (Option.some FieldType.int)) ∈ gT := gT_4 (i := 74) rfl rfl
set_option maxRecDepth 20000 in
theorem gw4_75 : (Cond.classLink "GrassBridgeLaw" (10 : Nat) "GrassBridgeModel") ∈ gT := gT_4 (i := 75) rfl rfl
set_option maxRecDepth 20000 in
theorem gw4_76 : (Cond.instantiable "GrassBridgeModel" (45 : Nat)) ∈ gT := gT_4 (i := 76) rfl rfl
set_option maxRecDepth 20000 in
theorem gw4_77 : (Cond.methodLink "GrassBridgeLaw" (12 : Nat) ⟨"GrassBridgeModel", "<init>", "()V"⟩) ∈ gT := gT_4 (i := 77) rfl rfl
set_option maxRecDepth 20000 in
theorem gw4_78 : (Cond.instanceMethod ⟨"GrassBridgeModel", "<init>", "()V"⟩) ∈ gT := gT_4 (i := 78) rfl rfl
set_option maxRecDepth 20000 in
theorem gw4_79 : (Cond.code ⟨"GrassBridgeModel", "<init>", "()V"⟩ prog_14_method_1_code (2 : Nat) (Option.none : Option FieldType)) ∈ gT := gT_4 (i := 79) rfl rfl
set_option maxRecDepth 20000 in
theorem gw4_80 : (Cond.methodLink "GrassBridgeModel" (1 : Nat) ⟨"java/lang/Object", "<init>", "()V"⟩) ∈ gT := gT_4 (i := 80) rfl rfl
set_option maxRecDepth 20000 in
theorem gw4_81 : (Cond.fieldLink "GrassBridgeModel" (7 : Nat) "GrassBridgeModel" "refusals" "[I") ∈ gT := gT_4 (i := 81) rfl rfl
set_option maxRecDepth 20000 in
theorem gw4_82 : (Cond.fieldLink "GrassBridgeModel" (13 : Nat) "GrassBridgeModel" "rains" "[I") ∈ gT := gT_4 (i := 82) rfl rfl
set_option maxRecDepth 20000 in
theorem gw4_83 : (Cond.fieldLink "GrassBridgeModel" (162 : Nat) "GrassBridgeModel" "year" "I") ∈ gT := gT_4 (i := 83) rfl rfl
set_option maxRecDepth 20000 in
theorem gw4_84 : (Cond.fieldLink "GrassBridgeModel" (165 : Nat) "GrassBridgeModel" "week" "I") ∈ gT := gT_4 (i := 84) rfl rfl
set_option maxRecDepth 20000 in
theorem gw4_85 : (Cond.fieldLink "GrassBridgeModel" (144 : Nat) "GrassBridgeModel" "houses" "I") ∈ gT := gT_4 (i := 85) rfl rfl
set_option maxRecDepth 20000 in
theorem gw4_86 : (Cond.fieldLink "GrassBridgeModel" (168 : Nat) "GrassBridgeModel" "ropes" "I") ∈ gT := gT_4 (i := 86) rfl rfl
set_option maxRecDepth 20000 in
theorem gw4_87 : (Cond.fieldLink "GrassBridgeModel" (152 : Nat) "GrassBridgeModel" "asked" "I") ∈ gT := gT_4 (i := 87) rfl rfl
set_option maxRecDepth 20000 in
theorem gw4_88 : (Cond.fieldLink "GrassBridgeModel" (213 : Nat) "GrassBridgeModel" "brokenMany" "I") ∈ gT := gT_4 (i := 88) rfl rfl
set_option maxRecDepth 20000 in
theorem gw4_89 : (Cond.fieldLink "GrassBridgeModel" (216 : Nat) "GrassBridgeModel" "steps" "I") ∈ gT := gT_4 (i := 89) rfl rfl
set_option maxRecDepth 20000 in
theorem gw4_90 : (Cond.fieldLink "GrassBridgeModel" (235 : Nat) "GrassBridgeModel" "people" "I") ∈ gT := gT_4 (i := 90) rfl rfl
set_option maxRecDepth 20000 in
theorem gw4_91 : (Cond.fieldLink "GrassBridgeModel" (16 : Nat) "GrassBridgeModel" "village" "[I") ∈ gT := gT_4 (i := 91) rfl rfl
set_option maxRecDepth 20000 in
theorem gw4_92 : (Cond.fieldLink "GrassBridgeModel" (19 : Nat) "GrassBridgeModel" "hands" "[I") ∈ gT := gT_4 (i := 92) rfl rfl
set_option maxRecDepth 20000 in
theorem gw4_93 : (Cond.fieldLink "GrassBridgeModel" (22 : Nat) "GrassBridgeModel" "care" "[I") ∈ gT := gT_4 (i := 93) rfl rfl
set_option maxRecDepth 20000 in
theorem gw4_94 : (Cond.fieldLink "GrassBridgeModel" (25 : Nat) "GrassBridgeModel" "fathoms" "[I") ∈ gT := gT_4 (i := 94) rfl rfl
set_option maxRecDepth 20000 in
theorem gw4_95 : (Cond.fieldLink "GrassBridgeModel" (28 : Nat) "GrassBridgeModel" "doubt" "[I") ∈ gT := gT_4 (i := 95) rfl rfl
set_option maxRecDepth 20000 in
theorem gw4_96 : (Cond.fieldLink "GrassBridgeModel" (31 : Nat) "GrassBridgeModel" "used" "[I") ∈ gT := gT_4 (i := 96) rfl rfl
set_option maxRecDepth 20000 in
theorem gw4_97 : (Cond.fieldLink "GrassBridgeModel" (34 : Nat) "GrassBridgeModel" "owed" "[I") ∈ gT := gT_4 (i := 97) rfl rfl
set_option maxRecDepth 20000 in
theorem gw4_98 : (Cond.fieldLink "GrassBridgeModel" (37 : Nat) "GrassBridgeModel" "here" "[Z") ∈ gT := gT_4 (i := 98) rfl rfl
set_option maxRecDepth 20000 in
theorem gw4_99 : (Cond.fieldLink "GrassBridgeModel" (41 : Nat) "GrassBridgeModel" "has" "[Z") ∈ gT := gT_4 (i := 99) rfl rfl
set_option maxRecDepth 20000 in
theorem gw4_100 : (Cond.fieldLink "GrassBridgeModel" (44 : Nat) "GrassBridgeModel" "ropeKind" "[I") ∈ gT := gT_4 (i := 100) rfl rfl
set_option maxRecDepth 20000 in
theorem gw4_101 : (Cond.fieldLink "GrassBridgeModel" (47 : Nat) "GrassBridgeModel" "sound" "[I") ∈ gT := gT_4 (i := 101) rfl rfl
set_option maxRecDepth 20000 in
theorem gw4_102 : (Cond.fieldLink "GrassBridgeModel" (50 : Nat) "GrassBridgeModel" "laid" "[I") ∈ gT := gT_4 (i := 102) rfl rfl
set_option maxRecDepth 20000 in
theorem gw4_103 : (Cond.fieldLink "GrassBridgeModel" (53 : Nat) "GrassBridgeModel" "place" "[I") ∈ gT := gT_4 (i := 103) rfl rfl
set_option maxRecDepth 20000 in
theorem gw4_104 : (Cond.fieldLink "GrassBridgeModel" (56 : Nat) "GrassBridgeModel" "part" "[I") ∈ gT := gT_4 (i := 104) rfl rfl
set_option maxRecDepth 20000 in
theorem gw4_105 : (Cond.fieldLink "GrassBridgeModel" (59 : Nat) "GrassBridgeModel" "cares" "[I") ∈ gT := gT_4 (i := 105) rfl rfl
set_option maxRecDepth 20000 in
theorem gw4_106 : (Cond.fieldLink "GrassBridgeModel" (62 : Nat) "GrassBridgeModel" "isUsed" "[Z") ∈ gT := gT_4 (i := 106) rfl rfl
set_option maxRecDepth 20000 in
theorem gw4_107 : (Cond.fieldLink "GrassBridgeModel" (65 : Nat) "GrassBridgeModel" "hung" "[I") ∈ gT := gT_4 (i := 107) rfl rfl
set_option maxRecDepth 20000 in
theorem gw4_108 : (Cond.fieldLink "GrassBridgeModel" (68 : Nat) "GrassBridgeModel" "tension" "[I") ∈ gT := gT_4 (i := 108) rfl rfl
set_option maxRecDepth 20000 in
theorem gw4_109 : (Cond.fieldLink "GrassBridgeModel" (71 : Nat) "GrassBridgeModel" "wet" "[I") ∈ gT := gT_4 (i := 109) rfl rfl
set_option maxRecDepth 20000 in
theorem gw4_110 : (Cond.fieldLink "GrassBridgeModel" (74 : Nat) "GrassBridgeModel" "years" "[I") ∈ gT := gT_4 (i := 110) rfl rfl
set_option maxRecDepth 20000 in
theorem gw4_111 : (Cond.fieldLink "GrassBridgeModel" (77 : Nat) "GrassBridgeModel" "broken" "[I") ∈ gT := gT_4 (i := 111) rfl rfl
set_option maxRecDepth 20000 in
theorem gw4_112 : (Cond.fieldLink "GrassBridgeModel" (80 : Nat) "GrassBridgeModel" "shares" "[I") ∈ gT := gT_4 (i := 112) rfl rfl
set_option maxRecDepth 20000 in
theorem gw4_113 : (Cond.fieldLink "GrassBridgeModel" (83 : Nat) "GrassBridgeModel" "smalls" "[I") ∈ gT := gT_4 (i := 113) rfl rfl
set_option maxRecDepth 20000 in
theorem gw4_114 : (Cond.fieldLink "GrassBridgeModel" (86 : Nat) "GrassBridgeModel" "stepKind" "[I") ∈ gT := gT_4 (i := 114) rfl rfl
set_option maxRecDepth 20000 in
theorem gw4_115 : (Cond.fieldLink "GrassBridgeModel" (89 : Nat) "GrassBridgeModel" "stepPlace" "[I") ∈ gT := gT_4 (i := 115) rfl rfl
set_option maxRecDepth 20000 in
theorem gw4_116 : (Cond.fieldLink "GrassBridgeModel" (92 : Nat) "GrassBridgeModel" "days" "[I") ∈ gT := gT_4 (i := 116) rfl rfl
set_option maxRecDepth 20000 in
theorem gw4_117 : (Cond.fieldLink "GrassBridgeModel" (95 : Nat) "GrassBridgeModel" "needs" "[I") ∈ gT := gT_4 (i := 117) rfl rfl
set_option maxRecDepth 20000 in
theorem gw4_118 : (Cond.fieldLink "GrassBridgeModel" (98 : Nat) "GrassBridgeModel" "after" "[I") ∈ gT := gT_4 (i := 118) rfl rfl
set_option maxRecDepth 20000 in
theorem gw4_119 : (Cond.fieldLink "GrassBridgeModel" (101 : Nat) "GrassBridgeModel" "row" "[I") ∈ gT := gT_4 (i := 119) rfl rfl
set_option maxRecDepth 20000 in
theorem gw4_120 : (Cond.fieldLink "GrassBridgeModel" (104 : Nat) "GrassBridgeModel" "best" "[I") ∈ gT := gT_4 (i := 120) rfl rfl
set_option maxRecDepth 20000 in
theorem gw4_121 : (Cond.fieldLink "GrassBridgeModel" (107 : Nat) "GrassBridgeModel" "daysTo" "[I") ∈ gT := gT_4 (i := 121) rfl rfl
set_option maxRecDepth 20000 in
theorem gw4_122 : (Cond.fieldLink "GrassBridgeModel" (222 : Nat) "GrassBridgeModel" "bestDays" "I") ∈ gT := gT_4 (i := 122) rfl rfl
set_option maxRecDepth 20000 in
theorem gw4_123 : (Cond.fieldLink "GrassBridgeModel" (110 : Nat) "GrassBridgeModel" "parent" "[I") ∈ gT := gT_4 (i := 123) rfl rfl
set_option maxRecDepth 20000 in
theorem gw4_124 : (Cond.fieldLink "GrassBridgeModel" (113 : Nat) "GrassBridgeModel" "born" "[I") ∈ gT := gT_4 (i := 124) rfl rfl
set_option maxRecDepth 20000 in
theorem gw4_125 : (Cond.fieldLink "GrassBridgeModel" (116 : Nat) "GrassBridgeModel" "isAlive" "[Z") ∈ gT := gT_4 (i := 125) rfl rfl
set_option maxRecDepth 20000 in
theorem gw4_126 : (Cond.laysFinal "GrassBridgeModel" "GrassBridgeModel" "refusals" "[I") ∈ gT := gT_4 (i := 126) rfl rfl
set_option maxRecDepth 20000 in
theorem gw4_128 : (Cond.laysFinal "GrassBridgeModel" "GrassBridgeModel" "rains" "[I") ∈ gT := gT_4 (i := 128) rfl rfl
set_option maxRecDepth 20000 in
theorem gw4_130 : (Cond.lays "GrassBridgeModel" "GrassBridgeModel" "year" "I") ∈ gT := gT_4 (i := 130) rfl rfl
set_option maxRecDepth 20000 in
theorem gw4_132 : (Cond.lays "GrassBridgeModel" "GrassBridgeModel" "week" "I") ∈ gT := gT_4 (i := 132) rfl rfl
set_option maxRecDepth 20000 in
theorem gw4_134 : (Cond.lays "GrassBridgeModel" "GrassBridgeModel" "houses" "I") ∈ gT := gT_4 (i := 134) rfl rfl
set_option maxRecDepth 20000 in
theorem gw4_136 : (Cond.lays "GrassBridgeModel" "GrassBridgeModel" "ropes" "I") ∈ gT := gT_4 (i := 136) rfl rfl
set_option maxRecDepth 20000 in
theorem gw4_138 : (Cond.lays "GrassBridgeModel" "GrassBridgeModel" "asked" "I") ∈ gT := gT_4 (i := 138) rfl rfl
set_option maxRecDepth 20000 in
theorem gw4_140 : (Cond.lays "GrassBridgeModel" "GrassBridgeModel" "brokenMany" "I") ∈ gT := gT_4 (i := 140) rfl rfl
set_option maxRecDepth 20000 in
theorem gw4_142 : (Cond.lays "GrassBridgeModel" "GrassBridgeModel" "steps" "I") ∈ gT := gT_4 (i := 142) rfl rfl
set_option maxRecDepth 20000 in
theorem gw4_144 : (Cond.lays "GrassBridgeModel" "GrassBridgeModel" "people" "I") ∈ gT := gT_4 (i := 144) rfl rfl
set_option maxRecDepth 20000 in
theorem gw4_146 : (Cond.laysFinal "GrassBridgeModel" "GrassBridgeModel" "village" "[I") ∈ gT := gT_4 (i := 146) rfl rfl
set_option maxRecDepth 20000 in
theorem gw4_148 : (Cond.laysFinal "GrassBridgeModel" "GrassBridgeModel" "hands" "[I") ∈ gT := gT_4 (i := 148) rfl rfl
set_option maxRecDepth 20000 in
theorem gw4_150 : (Cond.laysFinal "GrassBridgeModel" "GrassBridgeModel" "care" "[I") ∈ gT := gT_4 (i := 150) rfl rfl
set_option maxRecDepth 20000 in
theorem gw4_152 : (Cond.laysFinal "GrassBridgeModel" "GrassBridgeModel" "fathoms" "[I") ∈ gT := gT_4 (i := 152) rfl rfl
set_option maxRecDepth 20000 in
theorem gw4_154 : (Cond.laysFinal "GrassBridgeModel" "GrassBridgeModel" "doubt" "[I") ∈ gT := gT_4 (i := 154) rfl rfl
set_option maxRecDepth 20000 in
theorem gw4_156 : (Cond.laysFinal "GrassBridgeModel" "GrassBridgeModel" "used" "[I") ∈ gT := gT_4 (i := 156) rfl rfl
set_option maxRecDepth 20000 in
theorem gw4_158 : (Cond.laysFinal "GrassBridgeModel" "GrassBridgeModel" "owed" "[I") ∈ gT := gT_4 (i := 158) rfl rfl
set_option maxRecDepth 20000 in
theorem gw4_160 : (Cond.laysFinal "GrassBridgeModel" "GrassBridgeModel" "here" "[Z") ∈ gT := gT_4 (i := 160) rfl rfl
set_option maxRecDepth 20000 in
theorem gw4_162 : (Cond.laysFinal "GrassBridgeModel" "GrassBridgeModel" "has" "[Z") ∈ gT := gT_4 (i := 162) rfl rfl
set_option maxRecDepth 20000 in
theorem gw4_164 : (Cond.laysFinal "GrassBridgeModel" "GrassBridgeModel" "ropeKind" "[I") ∈ gT := gT_4 (i := 164) rfl rfl
set_option maxRecDepth 20000 in
theorem gw4_166 : (Cond.laysFinal "GrassBridgeModel" "GrassBridgeModel" "sound" "[I") ∈ gT := gT_4 (i := 166) rfl rfl
set_option maxRecDepth 20000 in
theorem gw4_168 : (Cond.laysFinal "GrassBridgeModel" "GrassBridgeModel" "laid" "[I") ∈ gT := gT_4 (i := 168) rfl rfl
set_option maxRecDepth 20000 in
theorem gw4_170 : (Cond.laysFinal "GrassBridgeModel" "GrassBridgeModel" "place" "[I") ∈ gT := gT_4 (i := 170) rfl rfl
set_option maxRecDepth 20000 in
theorem gw4_172 : (Cond.laysFinal "GrassBridgeModel" "GrassBridgeModel" "part" "[I") ∈ gT := gT_4 (i := 172) rfl rfl
set_option maxRecDepth 20000 in
theorem gw4_174 : (Cond.laysFinal "GrassBridgeModel" "GrassBridgeModel" "cares" "[I") ∈ gT := gT_4 (i := 174) rfl rfl
set_option maxRecDepth 20000 in
theorem gw4_176 : (Cond.laysFinal "GrassBridgeModel" "GrassBridgeModel" "isUsed" "[Z") ∈ gT := gT_4 (i := 176) rfl rfl
set_option maxRecDepth 20000 in
theorem gw4_178 : (Cond.laysFinal "GrassBridgeModel" "GrassBridgeModel" "hung" "[I") ∈ gT := gT_4 (i := 178) rfl rfl
set_option maxRecDepth 20000 in
theorem gw4_180 : (Cond.laysFinal "GrassBridgeModel" "GrassBridgeModel" "tension" "[I") ∈ gT := gT_4 (i := 180) rfl rfl
set_option maxRecDepth 20000 in
theorem gw4_182 : (Cond.laysFinal "GrassBridgeModel" "GrassBridgeModel" "wet" "[I") ∈ gT := gT_4 (i := 182) rfl rfl
set_option maxRecDepth 20000 in
theorem gw4_184 : (Cond.laysFinal "GrassBridgeModel" "GrassBridgeModel" "years" "[I") ∈ gT := gT_4 (i := 184) rfl rfl
set_option maxRecDepth 20000 in
theorem gw4_186 : (Cond.laysFinal "GrassBridgeModel" "GrassBridgeModel" "broken" "[I") ∈ gT := gT_4 (i := 186) rfl rfl
set_option maxRecDepth 20000 in
theorem gw4_188 : (Cond.laysFinal "GrassBridgeModel" "GrassBridgeModel" "shares" "[I") ∈ gT := gT_4 (i := 188) rfl rfl
set_option maxRecDepth 20000 in
theorem gw4_190 : (Cond.laysFinal "GrassBridgeModel" "GrassBridgeModel" "smalls" "[I") ∈ gT := gT_4 (i := 190) rfl rfl
set_option maxRecDepth 20000 in
theorem gw4_192 : (Cond.laysFinal "GrassBridgeModel" "GrassBridgeModel" "stepKind" "[I") ∈ gT := gT_4 (i := 192) rfl rfl
set_option maxRecDepth 20000 in
theorem gw4_194 : (Cond.laysFinal "GrassBridgeModel" "GrassBridgeModel" "stepPlace" "[I") ∈ gT := gT_4 (i := 194) rfl rfl
set_option maxRecDepth 20000 in
theorem gw4_196 : (Cond.laysFinal "GrassBridgeModel" "GrassBridgeModel" "days" "[I") ∈ gT := gT_4 (i := 196) rfl rfl
set_option maxRecDepth 20000 in
theorem gw4_198 : (Cond.laysFinal "GrassBridgeModel" "GrassBridgeModel" "needs" "[I") ∈ gT := gT_4 (i := 198) rfl rfl
set_option maxRecDepth 20000 in
theorem gw4_200 : (Cond.laysFinal "GrassBridgeModel" "GrassBridgeModel" "after" "[I") ∈ gT := gT_4 (i := 200) rfl rfl
set_option maxRecDepth 20000 in
theorem gw4_202 : (Cond.laysFinal "GrassBridgeModel" "GrassBridgeModel" "row" "[I") ∈ gT := gT_4 (i := 202) rfl rfl
set_option maxRecDepth 20000 in
theorem gw4_204 : (Cond.laysFinal "GrassBridgeModel" "GrassBridgeModel" "best" "[I") ∈ gT := gT_4 (i := 204) rfl rfl
set_option maxRecDepth 20000 in
theorem gw4_206 : (Cond.laysFinal "GrassBridgeModel" "GrassBridgeModel" "daysTo" "[I") ∈ gT := gT_4 (i := 206) rfl rfl
set_option maxRecDepth 20000 in
theorem gw4_208 : (Cond.lays "GrassBridgeModel" "GrassBridgeModel" "bestDays" "I") ∈ gT := gT_4 (i := 208) rfl rfl
set_option maxRecDepth 20000 in
theorem gw4_210 : (Cond.laysFinal "GrassBridgeModel" "GrassBridgeModel" "parent" "[I") ∈ gT := gT_4 (i := 210) rfl rfl
set_option maxRecDepth 20000 in
theorem gw4_212 : (Cond.laysFinal "GrassBridgeModel" "GrassBridgeModel" "born" "[I") ∈ gT := gT_4 (i := 212) rfl rfl
set_option maxRecDepth 20000 in
theorem gw4_214 : (Cond.laysFinal "GrassBridgeModel" "GrassBridgeModel" "isAlive" "[Z") ∈ gT := gT_4 (i := 214) rfl rfl
set_option maxRecDepth 20000 in
theorem gw4_217 : (Cond.methodLink "GrassBridgeLaw" (17 : Nat) ⟨"GrassBridgeModel", "rain", "(II)I"⟩) ∈ gT := gT_4 (i := 217) rfl rfl
set_option maxRecDepth 20000 in
theorem gw4_218 : (Cond.instanceMethod ⟨"GrassBridgeModel", "rain", "(II)I"⟩) ∈ gT := gT_4 (i := 218) rfl rfl
set_option maxRecDepth 20000 in
theorem gw4_219 : (Cond.selects "GrassBridgeModel" ⟨"GrassBridgeModel", "rain", "(II)I"⟩ ⟨"GrassBridgeModel", "rain", "(II)I"⟩) ∈ gT := gT_4 (i := 219) rfl rfl
set_option maxRecDepth 20000 in
theorem gw4_220 : (Cond.code ⟨"GrassBridgeModel", "rain", "(II)I"⟩ prog_14_method_6_code (5 : Nat) (Option.some FieldType.int)) ∈ gT := gT_4 (i := 220) rfl rfl
set_option maxRecDepth 20000 in
theorem gw4_221 : (Cond.methodLink "GrassBridgeModel" (124 : Nat) ⟨"GrassBridgeModel", "isIn", "(II)Z"⟩) ∈ gT := gT_4 (i := 221) rfl rfl
set_option maxRecDepth 20000 in
theorem gw4_222 : (Cond.static ⟨"GrassBridgeModel", "isIn", "(II)Z"⟩) ∈ gT := gT_4 (i := 222) rfl rfl
set_option maxRecDepth 20000 in
theorem gw4_223 : (Cond.code ⟨"GrassBridgeModel", "isIn", "(II)Z"⟩ prog_14_method_4_code (2 : Nat) (Option.some FieldType.boolean)) ∈ gT := gT_4 (i := 223) rfl rfl
set_option maxRecDepth 20000 in
theorem gw4_224 : (Cond.methodLink "GrassBridgeModel" (128 : Nat) ⟨"GrassBridgeModel", "wrong", "(III)I"⟩) ∈ gT := gT_4 (i := 224) rfl rfl
set_option maxRecDepth 20000 in
theorem gw4_225 : (Cond.static ⟨"GrassBridgeModel", "wrong", "(III)I"⟩) ∈ gT := gT_4 (i := 225) rfl rfl
set_option maxRecDepth 20000 in
theorem gw4_226 : (Cond.code ⟨"GrassBridgeModel", "wrong", "(III)I"⟩ prog_14_method_5_code (3 : Nat) (Option.some FieldType.int)) ∈ gT := gT_4 (i := 226) rfl rfl
set_option maxRecDepth 20000 in
theorem gw4_227 : (Cond.methodLink "GrassBridgeModel" (132 : Nat) ⟨"GrassBridgeModel", "refuseFar", "(I)I"⟩) ∈ gT := gT_4 (i := 227) rfl rfl
set_option maxRecDepth 20000 in
theorem gw4_229 : (Cond.instanceMethod ⟨"GrassBridgeModel", "refuseFar", "(I)I"⟩) ∈ gT := gT_4 (i := 229) rfl rfl
set_option maxRecDepth 20000 in
theorem gw4_230 : (Cond.code ⟨"GrassBridgeModel", "refuseFar", "(I)I"⟩ prog_14_method_3_code (2 : Nat) (Option.some FieldType.int)) ∈ gT := gT_4 (i := 230) rfl rfl
set_option maxRecDepth 20000 in
theorem gw4_231 : (Cond.constant "GrassBridgeModel" (119 : Nat) (1000000000 : Int32)) ∈ gT := gT_4 (i := 231) rfl rfl
set_option maxRecDepth 20000 in
theorem gw4_232 : (Cond.methodLink "GrassBridgeModel" (120 : Nat) ⟨"GrassBridgeModel", "refuse", "(I)I"⟩) ∈ gT := gT_4 (i := 232) rfl rfl
set_option maxRecDepth 20000 in
theorem gw4_234 : (Cond.instanceMethod ⟨"GrassBridgeModel", "refuse", "(I)I"⟩) ∈ gT := gT_4 (i := 234) rfl rfl
set_option maxRecDepth 20000 in
theorem gw4_235 : (Cond.code ⟨"GrassBridgeModel", "refuse", "(I)I"⟩ prog_14_method_2_code (2 : Nat) (Option.some FieldType.int)) ∈ gT := gT_4 (i := 235) rfl rfl
set_option maxRecDepth 20000 in
theorem gw4_236 : (Cond.methodLink "GrassBridgeLaw" (22 : Nat) ⟨"GrassBridgeModel", "rainOf", "(I)I"⟩) ∈ gT := gT_4 (i := 236) rfl rfl
set_option maxRecDepth 20000 in
theorem gw4_237 : (Cond.instanceMethod ⟨"GrassBridgeModel", "rainOf", "(I)I"⟩) ∈ gT := gT_4 (i := 237) rfl rfl
set_option maxRecDepth 20000 in
theorem gw4_238 : (Cond.selects "GrassBridgeModel" ⟨"GrassBridgeModel", "rainOf", "(I)I"⟩ ⟨"GrassBridgeModel", "rainOf", "(I)I"⟩) ∈ gT := gT_4 (i := 238) rfl rfl
set_option maxRecDepth 20000 in
theorem gw4_239 : (Cond.code ⟨"GrassBridgeModel", "rainOf", "(I)I"⟩ prog_14_method_8_code (2 : Nat) (Option.some FieldType.int)) ∈ gT := gT_4 (i := 239) rfl rfl
set_option maxRecDepth 20000 in
theorem gw5_0 : (Cond.methodLink "GrassBridgeModel" (141 : Nat) ⟨"GrassBridgeModel", "counts", "(I)I"⟩) ∈ gT := gT_5 (i := 0) rfl rfl
set_option maxRecDepth 20000 in
theorem gw5_2 : (Cond.instanceMethod ⟨"GrassBridgeModel", "counts", "(I)I"⟩) ∈ gT := gT_5 (i := 2) rfl rfl
set_option maxRecDepth 20000 in
theorem gw5_3 : (Cond.code ⟨"GrassBridgeModel", "counts", "(I)I"⟩ prog_14_method_7_code (4 : Nat) (Option.some FieldType.int)) ∈ gT := gT_5 (i := 3) rfl rfl
set_option maxRecDepth 20000 in
theorem gw5_4 : (Cond.methodLink "GrassBridgeModel" (135 : Nat) ⟨"java/lang/Math", "max", "(II)I"⟩) ∈ gT := gT_5 (i := 4) rfl rfl
set_option maxRecDepth 20000 in
theorem gw5_5 : (Cond.methodLink "GrassBridgeLaw" (26 : Nat) ⟨"GrassBridgeModel", "house", "(II)I"⟩) ∈ gT := gT_5 (i := 5) rfl rfl
set_option maxRecDepth 20000 in
theorem gw5_6 : (Cond.instanceMethod ⟨"GrassBridgeModel", "house", "(II)I"⟩) ∈ gT := gT_5 (i := 6) rfl rfl
set_option maxRecDepth 20000 in
theorem gw5_7 : (Cond.selects "GrassBridgeModel" ⟨"GrassBridgeModel", "house", "(II)I"⟩ ⟨"GrassBridgeModel", "house", "(II)I"⟩) ∈ gT := gT_5 (i := 7) rfl rfl
set_option maxRecDepth 20000 in
theorem gw5_8 : (Cond.code ⟨"GrassBridgeModel", "house", "(II)I"⟩ prog_14_method_10_code (3 : Nat) (Option.some FieldType.int)) ∈ gT := gT_5 (i := 8) rfl rfl
set_option maxRecDepth 20000 in
theorem gw5_9 : (Cond.methodLink "GrassBridgeLaw" (31 : Nat) ⟨"GrassBridgeModel", "set", "(III)I"⟩) ∈ gT := gT_5 (i := 9) rfl rfl
set_option maxRecDepth 20000 in
theorem gw5_10 : (Cond.instanceMethod ⟨"GrassBridgeModel", "set", "(III)I"⟩) ∈ gT := gT_5 (i := 10) rfl rfl
set_option maxRecDepth 20000 in
theorem gw5_11 : (Cond.selects "GrassBridgeModel" ⟨"GrassBridgeModel", "set", "(III)I"⟩ ⟨"GrassBridgeModel", "set", "(III)I"⟩) ∈ gT := gT_5 (i := 11) rfl rfl
set_option maxRecDepth 20000 in
theorem gw5_12 : (Cond.code ⟨"GrassBridgeModel", "set", "(III)I"⟩ prog_14_method_11_code (6 : Nat) (Option.some FieldType.int)) ∈ gT := gT_5 (i := 12) rfl rfl
set_option maxRecDepth 20000 in
theorem gw5_13 : (Cond.methodLink "GrassBridgeModel" (148 : Nat) ⟨"GrassBridgeModel", "isHouse", "(I)Z"⟩) ∈ gT := gT_5 (i := 13) rfl rfl
set_option maxRecDepth 20000 in
theorem gw5_15 : (Cond.instanceMethod ⟨"GrassBridgeModel", "isHouse", "(I)Z"⟩) ∈ gT := gT_5 (i := 15) rfl rfl
set_option maxRecDepth 20000 in
theorem gw5_16 : (Cond.code ⟨"GrassBridgeModel", "isHouse", "(I)Z"⟩ prog_14_method_9_code (2 : Nat) (Option.some FieldType.boolean)) ∈ gT := gT_5 (i := 16) rfl rfl
set_option maxRecDepth 20000 in
theorem gw5_17 : (Cond.methodLink "GrassBridgeLaw" (35 : Nat) ⟨"GrassBridgeModel", "bring", "(III)I"⟩) ∈ gT := gT_5 (i := 17) rfl rfl
set_option maxRecDepth 20000 in
theorem gw5_18 : (Cond.instanceMethod ⟨"GrassBridgeModel", "bring", "(III)I"⟩) ∈ gT := gT_5 (i := 18) rfl rfl
set_option maxRecDepth 20000 in
theorem gw5_19 : (Cond.selects "GrassBridgeModel" ⟨"GrassBridgeModel", "bring", "(III)I"⟩ ⟨"GrassBridgeModel", "bring", "(III)I"⟩) ∈ gT := gT_5 (i := 19) rfl rfl
set_option maxRecDepth 20000 in
theorem gw5_20 : (Cond.code ⟨"GrassBridgeModel", "bring", "(III)I"⟩ prog_14_method_12_code (4 : Nat) (Option.some FieldType.int)) ∈ gT := gT_5 (i := 20) rfl rfl
set_option maxRecDepth 20000 in
theorem gw5_21 : (Cond.methodLink "GrassBridgeLaw" (39 : Nat) ⟨"GrassBridgeModel", "brought", "(II)I"⟩) ∈ gT := gT_5 (i := 21) rfl rfl
set_option maxRecDepth 20000 in
theorem gw5_22 : (Cond.instanceMethod ⟨"GrassBridgeModel", "brought", "(II)I"⟩) ∈ gT := gT_5 (i := 22) rfl rfl
set_option maxRecDepth 20000 in
theorem gw5_23 : (Cond.selects "GrassBridgeModel" ⟨"GrassBridgeModel", "brought", "(II)I"⟩ ⟨"GrassBridgeModel", "brought", "(II)I"⟩) ∈ gT := gT_5 (i := 23) rfl rfl
set_option maxRecDepth 20000 in
theorem gw5_24 : (Cond.code ⟨"GrassBridgeModel", "brought", "(II)I"⟩ prog_14_method_13_code (5 : Nat) (Option.some FieldType.int)) ∈ gT := gT_5 (i := 24) rfl rfl
set_option maxRecDepth 20000 in
theorem gw5_25 : (Cond.methodLink "GrassBridgeLaw" (43 : Nat) ⟨"GrassBridgeModel", "ask", "(I)I"⟩) ∈ gT := gT_5 (i := 25) rfl rfl
set_option maxRecDepth 20000 in
theorem gw5_26 : (Cond.instanceMethod ⟨"GrassBridgeModel", "ask", "(I)I"⟩) ∈ gT := gT_5 (i := 26) rfl rfl
set_option maxRecDepth 20000 in
theorem gw5_27 : (Cond.selects "GrassBridgeModel" ⟨"GrassBridgeModel", "ask", "(I)I"⟩ ⟨"GrassBridgeModel", "ask", "(I)I"⟩) ∈ gT := gT_5 (i := 27) rfl rfl
set_option maxRecDepth 20000 in
theorem gw5_28 : (Cond.code ⟨"GrassBridgeModel", "ask", "(I)I"⟩ prog_14_method_14_code (4 : Nat) (Option.some FieldType.int)) ∈ gT := gT_5 (i := 28) rfl rfl
set_option maxRecDepth 20000 in
theorem gw5_29 : (Cond.methodLink "GrassBridgeLaw" (47 : Nat) ⟨"GrassBridgeModel", "share", "(I)I"⟩) ∈ gT := gT_5 (i := 29) rfl rfl
set_option maxRecDepth 20000 in
theorem gw5_30 : (Cond.instanceMethod ⟨"GrassBridgeModel", "share", "(I)I"⟩) ∈ gT := gT_5 (i := 30) rfl rfl
set_option maxRecDepth 20000 in
theorem gw5_31 : (Cond.selects "GrassBridgeModel" ⟨"GrassBridgeModel", "share", "(I)I"⟩ ⟨"GrassBridgeModel", "share", "(I)I"⟩) ∈ gT := gT_5 (i := 31) rfl rfl
set_option maxRecDepth 20000 in
theorem gw5_32 : (Cond.code ⟨"GrassBridgeModel", "share", "(I)I"⟩ prog_14_method_17_code (2 : Nat) (Option.some FieldType.int)) ∈ gT := gT_5 (i := 32) rfl rfl
set_option maxRecDepth 20000 in
theorem gw5_33 : (Cond.methodLink "GrassBridgeModel" (159 : Nat) ⟨"GrassBridgeModel", "shareOf", "(I)I"⟩) ∈ gT := gT_5 (i := 33) rfl rfl
set_option maxRecDepth 20000 in
theorem gw5_35 : (Cond.instanceMethod ⟨"GrassBridgeModel", "shareOf", "(I)I"⟩) ∈ gT := gT_5 (i := 35) rfl rfl
set_option maxRecDepth 20000 in
theorem gw5_36 : (Cond.code ⟨"GrassBridgeModel", "shareOf", "(I)I"⟩ prog_14_method_16_code (6 : Nat) (Option.some FieldType.int)) ∈ gT := gT_5 (i := 36) rfl rfl
set_option maxRecDepth 20000 in
theorem gw5_37 : (Cond.methodLink "GrassBridgeModel" (155 : Nat) ⟨"GrassBridgeModel", "allHands", "()I"⟩) ∈ gT := gT_5 (i := 37) rfl rfl
set_option maxRecDepth 20000 in
theorem gw5_39 : (Cond.instanceMethod ⟨"GrassBridgeModel", "allHands", "()I"⟩) ∈ gT := gT_5 (i := 39) rfl rfl
set_option maxRecDepth 20000 in
theorem gw5_40 : (Cond.code ⟨"GrassBridgeModel", "allHands", "()I"⟩ prog_14_method_15_code (3 : Nat) (Option.some FieldType.int)) ∈ gT := gT_5 (i := 40) rfl rfl
set_option maxRecDepth 20000 in
theorem gw5_41 : (Cond.methodLink "GrassBridgeLaw" (51 : Nat) ⟨"GrassBridgeModel", "owed", "(I)I"⟩) ∈ gT := gT_5 (i := 41) rfl rfl
set_option maxRecDepth 20000 in
theorem gw5_42 : (Cond.instanceMethod ⟨"GrassBridgeModel", "owed", "(I)I"⟩) ∈ gT := gT_5 (i := 42) rfl rfl
set_option maxRecDepth 20000 in
theorem gw5_43 : (Cond.selects "GrassBridgeModel" ⟨"GrassBridgeModel", "owed", "(I)I"⟩ ⟨"GrassBridgeModel", "owed", "(I)I"⟩) ∈ gT := gT_5 (i := 43) rfl rfl
set_option maxRecDepth 20000 in
theorem gw5_44 : (Cond.code ⟨"GrassBridgeModel", "owed", "(I)I"⟩ prog_14_method_18_code (2 : Nat) (Option.some FieldType.int)) ∈ gT := gT_5 (i := 44) rfl rfl
set_option maxRecDepth 20000 in
theorem gw5_45 : (Cond.methodLink "GrassBridgeLaw" (56 : Nat) ⟨"GrassBridgeModel", "close", "()I"⟩) ∈ gT := gT_5 (i := 45) rfl rfl
set_option maxRecDepth 20000 in
theorem gw5_46 : (Cond.instanceMethod ⟨"GrassBridgeModel", "close", "()I"⟩) ∈ gT := gT_5 (i := 46) rfl rfl
set_option maxRecDepth 20000 in
theorem gw5_47 : (Cond.selects "GrassBridgeModel" ⟨"GrassBridgeModel", "close", "()I"⟩ ⟨"GrassBridgeModel", "close", "()I"⟩) ∈ gT := gT_5 (i := 47) rfl rfl
set_option maxRecDepth 20000 in
theorem gw5_48 : (Cond.code ⟨"GrassBridgeModel", "close", "()I"⟩ prog_14_method_19_code (2 : Nat) (Option.some FieldType.int)) ∈ gT := gT_5 (i := 48) rfl rfl
set_option maxRecDepth 20000 in
theorem gw5_49 : (Cond.methodLink "GrassBridgeLaw" (60 : Nat) ⟨"GrassBridgeModel", "small", "(III)I"⟩) ∈ gT := gT_5 (i := 49) rfl rfl
set_option maxRecDepth 20000 in
theorem gw5_50 : (Cond.instanceMethod ⟨"GrassBridgeModel", "small", "(III)I"⟩) ∈ gT := gT_5 (i := 50) rfl rfl
set_option maxRecDepth 20000 in
theorem gw5_51 : (Cond.selects "GrassBridgeModel" ⟨"GrassBridgeModel", "small", "(III)I"⟩ ⟨"GrassBridgeModel", "small", "(III)I"⟩) ∈ gT := gT_5 (i := 51) rfl rfl
set_option maxRecDepth 20000 in
theorem gw5_52 : (Cond.code ⟨"GrassBridgeModel", "small", "(III)I"⟩ prog_14_method_25_code (4 : Nat) (Option.some FieldType.int)) ∈ gT := gT_5 (i := 52) rfl rfl
set_option maxRecDepth 20000 in
theorem gw5_53 : (Cond.methodLink "GrassBridgeModel" (171 : Nat) ⟨"GrassBridgeModel", "cordsLeft", "(I)I"⟩) ∈ gT := gT_5 (i := 53) rfl rfl
set_option maxRecDepth 20000 in
theorem gw5_55 : (Cond.instanceMethod ⟨"GrassBridgeModel", "cordsLeft", "(I)I"⟩) ∈ gT := gT_5 (i := 55) rfl rfl
set_option maxRecDepth 20000 in
theorem gw5_56 : (Cond.code ⟨"GrassBridgeModel", "cordsLeft", "(I)I"⟩ prog_14_method_22_code (2 : Nat) (Option.some FieldType.int)) ∈ gT := gT_5 (i := 56) rfl rfl
set_option maxRecDepth 20000 in
theorem gw5_57 : (Cond.methodLink "GrassBridgeModel" (174 : Nat) ⟨"GrassBridgeModel", "same", "(IIII)I"⟩) ∈ gT := gT_5 (i := 57) rfl rfl
set_option maxRecDepth 20000 in
theorem gw5_58 : (Cond.static ⟨"GrassBridgeModel", "same", "(IIII)I"⟩) ∈ gT := gT_5 (i := 58) rfl rfl
set_option maxRecDepth 20000 in
theorem gw5_59 : (Cond.code ⟨"GrassBridgeModel", "same", "(IIII)I"⟩ prog_14_method_24_code (4 : Nat) (Option.some FieldType.int)) ∈ gT := gT_5 (i := 59) rfl rfl
set_option maxRecDepth 20000 in
theorem gw5_60 : (Cond.methodLink "GrassBridgeModel" (178 : Nat) ⟨"java/lang/Math", "min", "(II)I"⟩) ∈ gT := gT_5 (i := 60) rfl rfl
set_option maxRecDepth 20000 in
theorem gw5_61 : (Cond.methodLink "GrassBridgeModel" (181 : Nat) ⟨"GrassBridgeModel", "adds", "(IIIII)I"⟩) ∈ gT := gT_5 (i := 61) rfl rfl
set_option maxRecDepth 20000 in
theorem gw5_63 : (Cond.instanceMethod ⟨"GrassBridgeModel", "adds", "(IIIII)I"⟩) ∈ gT := gT_5 (i := 63) rfl rfl
set_option maxRecDepth 20000 in
theorem gw5_64 : (Cond.code ⟨"GrassBridgeModel", "adds", "(IIIII)I"⟩ prog_14_method_23_code (6 : Nat) (Option.some FieldType.int)) ∈ gT := gT_5 (i := 64) rfl rfl
set_option maxRecDepth 20000 in
theorem gw5_65 : (Cond.methodLink "GrassBridgeLaw" (64 : Nat) ⟨"GrassBridgeModel", "lay", "(III)I"⟩) ∈ gT := gT_5 (i := 65) rfl rfl
set_option maxRecDepth 20000 in
theorem gw5_66 : (Cond.instanceMethod ⟨"GrassBridgeModel", "lay", "(III)I"⟩) ∈ gT := gT_5 (i := 66) rfl rfl
set_option maxRecDepth 20000 in
theorem gw5_67 : (Cond.selects "GrassBridgeModel" ⟨"GrassBridgeModel", "lay", "(III)I"⟩ ⟨"GrassBridgeModel", "lay", "(III)I"⟩) ∈ gT := gT_5 (i := 67) rfl rfl
set_option maxRecDepth 20000 in
theorem gw5_68 : (Cond.code ⟨"GrassBridgeModel", "lay", "(III)I"⟩ prog_14_method_26_code (4 : Nat) (Option.some FieldType.int)) ∈ gT := gT_5 (i := 68) rfl rfl
set_option maxRecDepth 20000 in
theorem gw5_69 : (Cond.methodLink "GrassBridgeModel" (185 : Nat) ⟨"GrassBridgeModel", "isRope", "(I)Z"⟩) ∈ gT := gT_5 (i := 69) rfl rfl
set_option maxRecDepth 20000 in
theorem gw5_71 : (Cond.instanceMethod ⟨"GrassBridgeModel", "isRope", "(I)Z"⟩) ∈ gT := gT_5 (i := 71) rfl rfl
set_option maxRecDepth 20000 in
theorem gw5_72 : (Cond.code ⟨"GrassBridgeModel", "isRope", "(I)Z"⟩ prog_14_method_20_code (2 : Nat) (Option.some FieldType.boolean)) ∈ gT := gT_5 (i := 72) rfl rfl
set_option maxRecDepth 20000 in
theorem gw5_73 : (Cond.methodLink "GrassBridgeModel" (188 : Nat) ⟨"GrassBridgeModel", "isFree", "(I)Z"⟩) ∈ gT := gT_5 (i := 73) rfl rfl
set_option maxRecDepth 20000 in
theorem gw5_75 : (Cond.instanceMethod ⟨"GrassBridgeModel", "isFree", "(I)Z"⟩) ∈ gT := gT_5 (i := 75) rfl rfl
set_option maxRecDepth 20000 in
theorem gw5_76 : (Cond.code ⟨"GrassBridgeModel", "isFree", "(I)Z"⟩ prog_14_method_21_code (2 : Nat) (Option.some FieldType.boolean)) ∈ gT := gT_5 (i := 76) rfl rfl
set_option maxRecDepth 20000 in
theorem gw5_77 : (Cond.methodLink "GrassBridgeLaw" (108 : Nat) ⟨"GrassBridgeModel", "strands", "(II)I"⟩) ∈ gT := gT_5 (i := 77) rfl rfl
set_option maxRecDepth 20000 in
theorem gw5_78 : (Cond.instanceMethod ⟨"GrassBridgeModel", "strands", "(II)I"⟩) ∈ gT := gT_5 (i := 78) rfl rfl
set_option maxRecDepth 20000 in
theorem gw5_79 : (Cond.selects "GrassBridgeModel" ⟨"GrassBridgeModel", "strands", "(II)I"⟩ ⟨"GrassBridgeModel", "strands", "(II)I"⟩) ∈ gT := gT_5 (i := 79) rfl rfl
set_option maxRecDepth 20000 in
theorem gw5_80 : (Cond.code ⟨"GrassBridgeModel", "strands", "(II)I"⟩ prog_14_method_28_code (3 : Nat) (Option.some FieldType.int)) ∈ gT := gT_5 (i := 80) rfl rfl
set_option maxRecDepth 20000 in
theorem gw5_81 : (Cond.methodLink "GrassBridgeModel" (191 : Nat) ⟨"GrassBridgeModel", "strandsOf", "(II)I"⟩) ∈ gT := gT_5 (i := 81) rfl rfl
set_option maxRecDepth 20000 in
theorem gw5_83 : (Cond.instanceMethod ⟨"GrassBridgeModel", "strandsOf", "(II)I"⟩) ∈ gT := gT_5 (i := 83) rfl rfl
set_option maxRecDepth 20000 in
theorem gw5_84 : (Cond.code ⟨"GrassBridgeModel", "strandsOf", "(II)I"⟩ prog_14_method_27_code (6 : Nat) (Option.some FieldType.int)) ∈ gT := gT_5 (i := 84) rfl rfl
set_option maxRecDepth 20000 in
theorem gw5_85 : (Cond.methodLink "GrassBridgeLaw" (68 : Nat) ⟨"GrassBridgeModel", "hang", "(II)I"⟩) ∈ gT := gT_5 (i := 85) rfl rfl
set_option maxRecDepth 20000 in
theorem gw5_86 : (Cond.instanceMethod ⟨"GrassBridgeModel", "hang", "(II)I"⟩) ∈ gT := gT_5 (i := 86) rfl rfl
set_option maxRecDepth 20000 in
theorem gw5_87 : (Cond.selects "GrassBridgeModel" ⟨"GrassBridgeModel", "hang", "(II)I"⟩ ⟨"GrassBridgeModel", "hang", "(II)I"⟩) ∈ gT := gT_5 (i := 87) rfl rfl
set_option maxRecDepth 20000 in
theorem gw5_88 : (Cond.code ⟨"GrassBridgeModel", "hang", "(II)I"⟩ prog_14_method_29_code (3 : Nat) (Option.some FieldType.int)) ∈ gT := gT_5 (i := 88) rfl rfl
set_option maxRecDepth 20000 in
theorem gw5_89 : (Cond.methodLink "GrassBridgeLaw" (72 : Nat) ⟨"GrassBridgeModel", "cut", "(I)I"⟩) ∈ gT := gT_5 (i := 89) rfl rfl
set_option maxRecDepth 20000 in
theorem gw5_90 : (Cond.instanceMethod ⟨"GrassBridgeModel", "cut", "(I)I"⟩) ∈ gT := gT_5 (i := 90) rfl rfl
set_option maxRecDepth 20000 in
theorem gw5_91 : (Cond.selects "GrassBridgeModel" ⟨"GrassBridgeModel", "cut", "(I)I"⟩ ⟨"GrassBridgeModel", "cut", "(I)I"⟩) ∈ gT := gT_5 (i := 91) rfl rfl
set_option maxRecDepth 20000 in
theorem gw5_92 : (Cond.code ⟨"GrassBridgeModel", "cut", "(I)I"⟩ prog_14_method_31_code (2 : Nat) (Option.some FieldType.int)) ∈ gT := gT_5 (i := 92) rfl rfl
set_option maxRecDepth 20000 in
theorem gw5_93 : (Cond.methodLink "GrassBridgeModel" (194 : Nat) ⟨"GrassBridgeModel", "gone", "(I)I"⟩) ∈ gT := gT_5 (i := 93) rfl rfl
set_option maxRecDepth 20000 in
theorem gw5_95 : (Cond.instanceMethod ⟨"GrassBridgeModel", "gone", "(I)I"⟩) ∈ gT := gT_5 (i := 95) rfl rfl
set_option maxRecDepth 20000 in
theorem gw5_96 : (Cond.code ⟨"GrassBridgeModel", "gone", "(I)I"⟩ prog_14_method_30_code (3 : Nat) (Option.some FieldType.int)) ∈ gT := gT_5 (i := 96) rfl rfl
set_option maxRecDepth 20000 in
theorem gw5_97 : (Cond.methodLink "GrassBridgeLaw" (76 : Nat) ⟨"GrassBridgeModel", "tension", "(II)I"⟩) ∈ gT := gT_5 (i := 97) rfl rfl
set_option maxRecDepth 20000 in
theorem gw5_98 : (Cond.instanceMethod ⟨"GrassBridgeModel", "tension", "(II)I"⟩) ∈ gT := gT_5 (i := 98) rfl rfl
set_option maxRecDepth 20000 in
theorem gw5_99 : (Cond.selects "GrassBridgeModel" ⟨"GrassBridgeModel", "tension", "(II)I"⟩ ⟨"GrassBridgeModel", "tension", "(II)I"⟩) ∈ gT := gT_5 (i := 99) rfl rfl
set_option maxRecDepth 20000 in
theorem gw5_100 : (Cond.code ⟨"GrassBridgeModel", "tension", "(II)I"⟩ prog_14_method_32_code (5 : Nat) (Option.some FieldType.int)) ∈ gT := gT_5 (i := 100) rfl rfl
set_option maxRecDepth 20000 in
theorem gw5_101 : (Cond.methodLink "GrassBridgeLaw" (80 : Nat) ⟨"GrassBridgeModel", "strength", "(I)I"⟩) ∈ gT := gT_5 (i := 101) rfl rfl
set_option maxRecDepth 20000 in
theorem gw5_102 : (Cond.instanceMethod ⟨"GrassBridgeModel", "strength", "(I)I"⟩) ∈ gT := gT_5 (i := 102) rfl rfl
set_option maxRecDepth 20000 in
theorem gw5_103 : (Cond.selects "GrassBridgeModel" ⟨"GrassBridgeModel", "strength", "(I)I"⟩ ⟨"GrassBridgeModel", "strength", "(I)I"⟩) ∈ gT := gT_5 (i := 103) rfl rfl
set_option maxRecDepth 20000 in
theorem gw5_104 : (Cond.code ⟨"GrassBridgeModel", "strength", "(I)I"⟩ prog_14_method_34_code (2 : Nat) (Option.some FieldType.int)) ∈ gT := gT_5 (i := 104) rfl rfl
set_option maxRecDepth 20000 in
theorem gw5_105 : (Cond.methodLink "GrassBridgeModel" (197 : Nat) ⟨"GrassBridgeModel", "strengthOf", "(II)I"⟩) ∈ gT := gT_5 (i := 105) rfl rfl
set_option maxRecDepth 20000 in
theorem gw5_107 : (Cond.instanceMethod ⟨"GrassBridgeModel", "strengthOf", "(II)I"⟩) ∈ gT := gT_5 (i := 107) rfl rfl
set_option maxRecDepth 20000 in
theorem gw5_108 : (Cond.code ⟨"GrassBridgeModel", "strengthOf", "(II)I"⟩ prog_14_method_33_code (3 : Nat) (Option.some FieldType.int)) ∈ gT := gT_5 (i := 108) rfl rfl
set_option maxRecDepth 20000 in
theorem gw5_109 : (Cond.methodLink "GrassBridgeLaw" (84 : Nat) ⟨"GrassBridgeModel", "bears", "()I"⟩) ∈ gT := gT_5 (i := 109) rfl rfl
set_option maxRecDepth 20000 in
theorem gw5_110 : (Cond.instanceMethod ⟨"GrassBridgeModel", "bears", "()I"⟩) ∈ gT := gT_5 (i := 110) rfl rfl
set_option maxRecDepth 20000 in
theorem gw5_111 : (Cond.selects "GrassBridgeModel" ⟨"GrassBridgeModel", "bears", "()I"⟩ ⟨"GrassBridgeModel", "bears", "()I"⟩) ∈ gT := gT_5 (i := 111) rfl rfl
set_option maxRecDepth 20000 in
theorem gw5_112 : (Cond.code ⟨"GrassBridgeModel", "bears", "()I"⟩ prog_14_method_36_code (1 : Nat) (Option.some FieldType.int)) ∈ gT := gT_5 (i := 112) rfl rfl
set_option maxRecDepth 20000 in
theorem gw5_113 : (Cond.methodLink "GrassBridgeModel" (200 : Nat) ⟨"GrassBridgeModel", "bearsWith", "(I)I"⟩) ∈ gT := gT_5 (i := 113) rfl rfl
set_option maxRecDepth 20000 in
theorem gw5_115 : (Cond.instanceMethod ⟨"GrassBridgeModel", "bearsWith", "(I)I"⟩) ∈ gT := gT_5 (i := 115) rfl rfl
set_option maxRecDepth 20000 in
theorem gw5_116 : (Cond.code ⟨"GrassBridgeModel", "bearsWith", "(I)I"⟩ prog_14_method_35_code (7 : Nat) (Option.some FieldType.int)) ∈ gT := gT_5 (i := 116) rfl rfl
set_option maxRecDepth 20000 in
theorem gw5_117 : (Cond.methodLink "GrassBridgeLaw" (88 : Nat) ⟨"GrassBridgeModel", "load", "(I)I"⟩) ∈ gT := gT_5 (i := 117) rfl rfl
set_option maxRecDepth 20000 in
theorem gw5_118 : (Cond.instanceMethod ⟨"GrassBridgeModel", "load", "(I)I"⟩) ∈ gT := gT_5 (i := 118) rfl rfl
set_option maxRecDepth 20000 in
theorem gw5_119 : (Cond.selects "GrassBridgeModel" ⟨"GrassBridgeModel", "load", "(I)I"⟩ ⟨"GrassBridgeModel", "load", "(I)I"⟩) ∈ gT := gT_5 (i := 119) rfl rfl
set_option maxRecDepth 20000 in
theorem gw5_120 : (Cond.code ⟨"GrassBridgeModel", "load", "(I)I"⟩ prog_14_method_38_code (3 : Nat) (Option.some FieldType.int)) ∈ gT := gT_5 (i := 120) rfl rfl
set_option maxRecDepth 20000 in
theorem gw5_121 : (Cond.methodLink "GrassBridgeModel" (203 : Nat) ⟨"GrassBridgeModel", "isLet", "(II)Z"⟩) ∈ gT := gT_5 (i := 121) rfl rfl
set_option maxRecDepth 20000 in
theorem gw5_123 : (Cond.instanceMethod ⟨"GrassBridgeModel", "isLet", "(II)Z"⟩) ∈ gT := gT_5 (i := 123) rfl rfl
set_option maxRecDepth 20000 in
theorem gw5_124 : (Cond.code ⟨"GrassBridgeModel", "isLet", "(II)Z"⟩ prog_14_method_37_code (3 : Nat) (Option.some FieldType.boolean)) ∈ gT := gT_5 (i := 124) rfl rfl
set_option maxRecDepth 20000 in
theorem gw5_125 : (Cond.methodLink "GrassBridgeLaw" (92 : Nat) ⟨"GrassBridgeModel", "weeks", "(I)I"⟩) ∈ gT := gT_5 (i := 125) rfl rfl
set_option maxRecDepth 20000 in
theorem gw5_126 : (Cond.instanceMethod ⟨"GrassBridgeModel", "weeks", "(I)I"⟩) ∈ gT := gT_5 (i := 126) rfl rfl
set_option maxRecDepth 20000 in
theorem gw5_127 : (Cond.selects "GrassBridgeModel" ⟨"GrassBridgeModel", "weeks", "(I)I"⟩ ⟨"GrassBridgeModel", "weeks", "(I)I"⟩) ∈ gT := gT_5 (i := 127) rfl rfl
set_option maxRecDepth 20000 in
theorem gw5_128 : (Cond.code ⟨"GrassBridgeModel", "weeks", "(I)I"⟩ prog_14_method_40_code (5 : Nat) (Option.some FieldType.int)) ∈ gT := gT_5 (i := 128) rfl rfl
set_option maxRecDepth 20000 in
theorem gw5_129 : (Cond.methodLink "GrassBridgeModel" (206 : Nat) ⟨"GrassBridgeModel", "wetOf", "(I)I"⟩) ∈ gT := gT_5 (i := 129) rfl rfl
set_option maxRecDepth 20000 in
theorem gw5_131 : (Cond.instanceMethod ⟨"GrassBridgeModel", "wetOf", "(I)I"⟩) ∈ gT := gT_5 (i := 131) rfl rfl
set_option maxRecDepth 20000 in
theorem gw5_132 : (Cond.code ⟨"GrassBridgeModel", "wetOf", "(I)I"⟩ prog_14_method_39_code (2 : Nat) (Option.some FieldType.int)) ∈ gT := gT_5 (i := 132) rfl rfl
set_option maxRecDepth 20000 in
theorem gw5_133 : (Cond.methodLink "GrassBridgeModel" (209 : Nat) ⟨"GrassBridgeModel", "breaks", "(I)V"⟩) ∈ gT := gT_5 (i := 133) rfl rfl
set_option maxRecDepth 20000 in
theorem gw5_135 : (Cond.instanceMethod ⟨"GrassBridgeModel", "breaks", "(I)V"⟩) ∈ gT := gT_5 (i := 135) rfl rfl
set_option maxRecDepth 20000 in
theorem gw5_136 : (Cond.code ⟨"GrassBridgeModel", "breaks", "(I)V"⟩ prog_14_method_41_code (3 : Nat) (Option.none : Option FieldType)) ∈ gT := gT_5 (i := 136) rfl rfl
set_option maxRecDepth 20000 in
theorem gw5_137 : (Cond.methodLink "GrassBridgeLaw" (96 : Nat) ⟨"GrassBridgeModel", "till", "(I)I"⟩) ∈ gT := gT_5 (i := 137) rfl rfl
set_option maxRecDepth 20000 in
theorem gw5_138 : (Cond.instanceMethod ⟨"GrassBridgeModel", "till", "(I)I"⟩) ∈ gT := gT_5 (i := 138) rfl rfl
set_option maxRecDepth 20000 in
theorem gw5_139 : (Cond.selects "GrassBridgeModel" ⟨"GrassBridgeModel", "till", "(I)I"⟩ ⟨"GrassBridgeModel", "till", "(I)I"⟩) ∈ gT := gT_5 (i := 139) rfl rfl
set_option maxRecDepth 20000 in
theorem gw5_140 : (Cond.code ⟨"GrassBridgeModel", "till", "(I)I"⟩ prog_14_method_42_code (5 : Nat) (Option.some FieldType.int)) ∈ gT := gT_5 (i := 140) rfl rfl
set_option maxRecDepth 20000 in
theorem gw5_141 : (Cond.methodLink "GrassBridgeLaw" (100 : Nat) ⟨"GrassBridgeModel", "broken", "(II)I"⟩) ∈ gT := gT_5 (i := 141) rfl rfl
set_option maxRecDepth 20000 in
theorem gw5_142 : (Cond.instanceMethod ⟨"GrassBridgeModel", "broken", "(II)I"⟩) ∈ gT := gT_5 (i := 142) rfl rfl
set_option maxRecDepth 20000 in
theorem gw5_143 : (Cond.selects "GrassBridgeModel" ⟨"GrassBridgeModel", "broken", "(II)I"⟩ ⟨"GrassBridgeModel", "broken", "(II)I"⟩) ∈ gT := gT_5 (i := 143) rfl rfl
set_option maxRecDepth 20000 in
theorem gw5_144 : (Cond.code ⟨"GrassBridgeModel", "broken", "(II)I"⟩ prog_14_method_43_code (3 : Nat) (Option.some FieldType.int)) ∈ gT := gT_5 (i := 144) rfl rfl
set_option maxRecDepth 20000 in
theorem gw5_145 : (Cond.methodLink "GrassBridgeLaw" (104 : Nat) ⟨"GrassBridgeModel", "blame", "(II)I"⟩) ∈ gT := gT_5 (i := 145) rfl rfl
set_option maxRecDepth 20000 in
theorem gw5_146 : (Cond.instanceMethod ⟨"GrassBridgeModel", "blame", "(II)I"⟩) ∈ gT := gT_5 (i := 146) rfl rfl
set_option maxRecDepth 20000 in
theorem gw5_147 : (Cond.selects "GrassBridgeModel" ⟨"GrassBridgeModel", "blame", "(II)I"⟩ ⟨"GrassBridgeModel", "blame", "(II)I"⟩) ∈ gT := gT_5 (i := 147) rfl rfl
set_option maxRecDepth 20000 in
theorem gw5_148 : (Cond.code ⟨"GrassBridgeModel", "blame", "(II)I"⟩ prog_14_method_44_code (8 : Nat) (Option.some FieldType.int)) ∈ gT := gT_5 (i := 148) rfl rfl
set_option maxRecDepth 20000 in
theorem gw5_149 : (Cond.methodLink "GrassBridgeLaw" (113 : Nat) ⟨"GrassBridgeModel", "step", "(IIIII)I"⟩) ∈ gT := gT_5 (i := 149) rfl rfl
set_option maxRecDepth 20000 in
theorem gw5_150 : (Cond.instanceMethod ⟨"GrassBridgeModel", "step", "(IIIII)I"⟩) ∈ gT := gT_5 (i := 150) rfl rfl
set_option maxRecDepth 20000 in
theorem gw5_151 : (Cond.selects "GrassBridgeModel" ⟨"GrassBridgeModel", "step", "(IIIII)I"⟩ ⟨"GrassBridgeModel", "step", "(IIIII)I"⟩) ∈ gT := gT_5 (i := 151) rfl rfl
set_option maxRecDepth 20000 in
theorem gw5_152 : (Cond.code ⟨"GrassBridgeModel", "step", "(IIIII)I"⟩ prog_14_method_45_code (7 : Nat) (Option.some FieldType.int)) ∈ gT := gT_5 (i := 152) rfl rfl
set_option maxRecDepth 20000 in
theorem gw5_153 : (Cond.methodLink "GrassBridgeLaw" (117 : Nat) ⟨"GrassBridgeModel", "clear", "()I"⟩) ∈ gT := gT_5 (i := 153) rfl rfl
set_option maxRecDepth 20000 in
theorem gw5_154 : (Cond.instanceMethod ⟨"GrassBridgeModel", "clear", "()I"⟩) ∈ gT := gT_5 (i := 154) rfl rfl
set_option maxRecDepth 20000 in
theorem gw5_155 : (Cond.selects "GrassBridgeModel" ⟨"GrassBridgeModel", "clear", "()I"⟩ ⟨"GrassBridgeModel", "clear", "()I"⟩) ∈ gT := gT_5 (i := 155) rfl rfl
set_option maxRecDepth 20000 in
theorem gw5_156 : (Cond.code ⟨"GrassBridgeModel", "clear", "()I"⟩ prog_14_method_46_code (2 : Nat) (Option.some FieldType.int)) ∈ gT := gT_5 (i := 156) rfl rfl
set_option maxRecDepth 20000 in
theorem gw5_157 : (Cond.methodLink "GrassBridgeLaw" (121 : Nat) ⟨"GrassBridgeModel", "plan", "()I"⟩) ∈ gT := gT_5 (i := 157) rfl rfl
set_option maxRecDepth 20000 in
theorem gw5_158 : (Cond.instanceMethod ⟨"GrassBridgeModel", "plan", "()I"⟩) ∈ gT := gT_5 (i := 158) rfl rfl
set_option maxRecDepth 20000 in
theorem gw5_159 : (Cond.selects "GrassBridgeModel" ⟨"GrassBridgeModel", "plan", "()I"⟩ ⟨"GrassBridgeModel", "plan", "()I"⟩) ∈ gT := gT_5 (i := 159) rfl rfl
set_option maxRecDepth 20000 in
theorem gw5_160 : (Cond.code ⟨"GrassBridgeModel", "plan", "()I"⟩ prog_14_method_51_code (1 : Nat) (Option.some FieldType.int)) ∈ gT := gT_5 (i := 160) rfl rfl
set_option maxRecDepth 20000 in
theorem gw5_161 : (Cond.methodLink "GrassBridgeModel" (232 : Nat) ⟨"GrassBridgeModel", "plans", "()V"⟩) ∈ gT := gT_5 (i := 161) rfl rfl
set_option maxRecDepth 20000 in
theorem gw5_163 : (Cond.instanceMethod ⟨"GrassBridgeModel", "plans", "()V"⟩) ∈ gT := gT_5 (i := 163) rfl rfl
set_option maxRecDepth 20000 in
theorem gw5_164 : (Cond.code ⟨"GrassBridgeModel", "plans", "()V"⟩ prog_14_method_50_code (4 : Nat) (Option.none : Option FieldType)) ∈ gT := gT_5 (i := 164) rfl rfl
set_option maxRecDepth 20000 in
theorem gw5_165 : (Cond.methodLink "GrassBridgeModel" (228 : Nat) ⟨"GrassBridgeModel", "tries", "(IIIIZ)V"⟩) ∈ gT := gT_5 (i := 165) rfl rfl
set_option maxRecDepth 20000 in
theorem gw5_167 : (Cond.instanceMethod ⟨"GrassBridgeModel", "tries", "(IIIIZ)V"⟩) ∈ gT := gT_5 (i := 167) rfl rfl
set_option maxRecDepth 20000 in
theorem gw5_168 : (Cond.code ⟨"GrassBridgeModel", "tries", "(IIIIZ)V"⟩ prog_14_method_48_code (12 : Nat) (Option.none : Option FieldType)) ∈ gT := gT_5 (i := 168) rfl rfl
set_option maxRecDepth 20000 in
theorem gw5_169 : (Cond.methodLink "GrassBridgeModel" (219 : Nat) ⟨"GrassBridgeModel", "daysOf", "()I"⟩) ∈ gT := gT_5 (i := 169) rfl rfl
set_option maxRecDepth 20000 in
theorem gw5_171 : (Cond.instanceMethod ⟨"GrassBridgeModel", "daysOf", "()I"⟩) ∈ gT := gT_5 (i := 171) rfl rfl
set_option maxRecDepth 20000 in
theorem gw5_172 : (Cond.code ⟨"GrassBridgeModel", "daysOf", "()I"⟩ prog_14_method_49_code (9 : Nat) (Option.some FieldType.int)) ∈ gT := gT_5 (i := 172) rfl rfl
set_option maxRecDepth 20000 in
theorem gw5_173 : (Cond.methodLink "GrassBridgeModel" (225 : Nat) ⟨"GrassBridgeModel", "floors", "(I)I"⟩) ∈ gT := gT_5 (i := 173) rfl rfl
set_option maxRecDepth 20000 in
theorem gw5_174 : (Cond.static ⟨"GrassBridgeModel", "floors", "(I)I"⟩) ∈ gT := gT_5 (i := 174) rfl rfl
set_option maxRecDepth 20000 in
theorem gw5_175 : (Cond.code ⟨"GrassBridgeModel", "floors", "(I)I"⟩ prog_14_method_47_code (1 : Nat) (Option.some FieldType.int)) ∈ gT := gT_5 (i := 175) rfl rfl
set_option maxRecDepth 20000 in
theorem gw5_176 : (Cond.methodLink "GrassBridgeLaw" (125 : Nat) ⟨"GrassBridgeModel", "planAt", "(I)I"⟩) ∈ gT := gT_5 (i := 176) rfl rfl
set_option maxRecDepth 20000 in
theorem gw5_177 : (Cond.instanceMethod ⟨"GrassBridgeModel", "planAt", "(I)I"⟩) ∈ gT := gT_5 (i := 177) rfl rfl
set_option maxRecDepth 20000 in
theorem gw5_178 : (Cond.selects "GrassBridgeModel" ⟨"GrassBridgeModel", "planAt", "(I)I"⟩ ⟨"GrassBridgeModel", "planAt", "(I)I"⟩) ∈ gT := gT_5 (i := 178) rfl rfl
set_option maxRecDepth 20000 in
theorem gw5_179 : (Cond.code ⟨"GrassBridgeModel", "planAt", "(I)I"⟩ prog_14_method_52_code (2 : Nat) (Option.some FieldType.int)) ∈ gT := gT_5 (i := 179) rfl rfl
set_option maxRecDepth 20000 in
theorem gw5_180 : (Cond.methodLink "GrassBridgeLaw" (129 : Nat) ⟨"GrassBridgeModel", "person", "(II)I"⟩) ∈ gT := gT_5 (i := 180) rfl rfl
set_option maxRecDepth 20000 in
theorem gw5_181 : (Cond.instanceMethod ⟨"GrassBridgeModel", "person", "(II)I"⟩) ∈ gT := gT_5 (i := 181) rfl rfl
set_option maxRecDepth 20000 in
theorem gw5_182 : (Cond.selects "GrassBridgeModel" ⟨"GrassBridgeModel", "person", "(II)I"⟩ ⟨"GrassBridgeModel", "person", "(II)I"⟩) ∈ gT := gT_5 (i := 182) rfl rfl
set_option maxRecDepth 20000 in
theorem gw5_183 : (Cond.code ⟨"GrassBridgeModel", "person", "(II)I"⟩ prog_14_method_53_code (3 : Nat) (Option.some FieldType.int)) ∈ gT := gT_5 (i := 183) rfl rfl
set_option maxRecDepth 20000 in
theorem gw5_184 : (Cond.methodLink "GrassBridgeLaw" (134 : Nat) ⟨"GrassBridgeModel", "alive", "(IZ)I"⟩) ∈ gT := gT_5 (i := 184) rfl rfl
set_option maxRecDepth 20000 in
theorem gw5_185 : (Cond.instanceMethod ⟨"GrassBridgeModel", "alive", "(IZ)I"⟩) ∈ gT := gT_5 (i := 185) rfl rfl
set_option maxRecDepth 20000 in
theorem gw5_186 : (Cond.selects "GrassBridgeModel" ⟨"GrassBridgeModel", "alive", "(IZ)I"⟩ ⟨"GrassBridgeModel", "alive", "(IZ)I"⟩) ∈ gT := gT_5 (i := 186) rfl rfl
set_option maxRecDepth 20000 in
theorem gw5_187 : (Cond.code ⟨"GrassBridgeModel", "alive", "(IZ)I"⟩ prog_14_method_54_code (3 : Nat) (Option.some FieldType.int)) ∈ gT := gT_5 (i := 187) rfl rfl
set_option maxRecDepth 20000 in
theorem gw5_188 : (Cond.methodLink "GrassBridgeLaw" (138 : Nat) ⟨"GrassBridgeModel", "master", "()I"⟩) ∈ gT := gT_5 (i := 188) rfl rfl
set_option maxRecDepth 20000 in
theorem gw5_189 : (Cond.instanceMethod ⟨"GrassBridgeModel", "master", "()I"⟩) ∈ gT := gT_5 (i := 189) rfl rfl
set_option maxRecDepth 20000 in
theorem gw5_190 : (Cond.selects "GrassBridgeModel" ⟨"GrassBridgeModel", "master", "()I"⟩ ⟨"GrassBridgeModel", "master", "()I"⟩) ∈ gT := gT_5 (i := 190) rfl rfl
set_option maxRecDepth 20000 in
theorem gw5_191 : (Cond.code ⟨"GrassBridgeModel", "master", "()I"⟩ prog_14_method_58_code (3 : Nat) (Option.some FieldType.int)) ∈ gT := gT_5 (i := 191) rfl rfl
set_option maxRecDepth 20000 in
theorem gw5_192 : (Cond.methodLink "GrassBridgeModel" (241 : Nat) ⟨"GrassBridgeModel", "lineOf", "(I)I"⟩) ∈ gT := gT_5 (i := 192) rfl rfl
set_option maxRecDepth 20000 in
theorem gw5_194 : (Cond.instanceMethod ⟨"GrassBridgeModel", "lineOf", "(I)I"⟩) ∈ gT := gT_5 (i := 194) rfl rfl
set_option maxRecDepth 20000 in
theorem gw5_195 : (Cond.code ⟨"GrassBridgeModel", "lineOf", "(I)I"⟩ prog_14_method_55_code (4 : Nat) (Option.some FieldType.int)) ∈ gT := gT_5 (i := 195) rfl rfl
set_option maxRecDepth 20000 in
theorem gw5_196 : (Cond.methodLink "GrassBridgeModel" (238 : Nat) ⟨"GrassBridgeModel", "child", "(II)I"⟩) ∈ gT := gT_5 (i := 196) rfl rfl
set_option maxRecDepth 20000 in
theorem gw5_198 : (Cond.instanceMethod ⟨"GrassBridgeModel", "child", "(II)I"⟩) ∈ gT := gT_5 (i := 198) rfl rfl
set_option maxRecDepth 20000 in
theorem gw5_199 : (Cond.code ⟨"GrassBridgeModel", "child", "(II)I"⟩ prog_14_method_56_code (5 : Nat) (Option.some FieldType.int)) ∈ gT := gT_5 (i := 199) rfl rfl
set_option maxRecDepth 20000 in
theorem gw5_200 : (Cond.methodLink "GrassBridgeModel" (244 : Nat) ⟨"GrassBridgeModel", "isBefore", "(II)Z"⟩) ∈ gT := gT_5 (i := 200) rfl rfl
set_option maxRecDepth 20000 in
theorem gw5_202 : (Cond.instanceMethod ⟨"GrassBridgeModel", "isBefore", "(II)Z"⟩) ∈ gT := gT_5 (i := 202) rfl rfl
set_option maxRecDepth 20000 in
theorem gw5_203 : (Cond.code ⟨"GrassBridgeModel", "isBefore", "(II)Z"⟩ prog_14_method_57_code (3 : Nat) (Option.some FieldType.boolean)) ∈ gT := gT_5 (i := 203) rfl rfl
set_option maxRecDepth 20000 in
theorem gw5_204 : (Cond.methodLink "GrassBridgeLaw" (142 : Nat) ⟨"GrassBridgeModel", "ropeOf", "(II)I"⟩) ∈ gT := gT_5 (i := 204) rfl rfl
set_option maxRecDepth 20000 in
theorem gw5_205 : (Cond.instanceMethod ⟨"GrassBridgeModel", "ropeOf", "(II)I"⟩) ∈ gT := gT_5 (i := 205) rfl rfl
set_option maxRecDepth 20000 in
theorem gw5_206 : (Cond.selects "GrassBridgeModel" ⟨"GrassBridgeModel", "ropeOf", "(II)I"⟩ ⟨"GrassBridgeModel", "ropeOf", "(II)I"⟩) ∈ gT := gT_5 (i := 206) rfl rfl
set_option maxRecDepth 20000 in
theorem gw5_207 : (Cond.code ⟨"GrassBridgeModel", "ropeOf", "(II)I"⟩ prog_14_method_59_code (3 : Nat) (Option.some FieldType.int)) ∈ gT := gT_5 (i := 207) rfl rfl
set_option maxRecDepth 20000 in
theorem gw5_208 : (Cond.methodLink "GrassBridgeLaw" (146 : Nat) ⟨"GrassBridgeModel", "count", "(I)I"⟩) ∈ gT := gT_5 (i := 208) rfl rfl
set_option maxRecDepth 20000 in
theorem gw5_209 : (Cond.instanceMethod ⟨"GrassBridgeModel", "count", "(I)I"⟩) ∈ gT := gT_5 (i := 209) rfl rfl
set_option maxRecDepth 20000 in
theorem gw5_210 : (Cond.selects "GrassBridgeModel" ⟨"GrassBridgeModel", "count", "(I)I"⟩ ⟨"GrassBridgeModel", "count", "(I)I"⟩) ∈ gT := gT_5 (i := 210) rfl rfl
set_option maxRecDepth 20000 in
theorem gw5_211 : (Cond.code ⟨"GrassBridgeModel", "count", "(I)I"⟩ prog_14_method_60_code (2 : Nat) (Option.some FieldType.int)) ∈ gT := gT_5 (i := 211) rfl rfl
set_option maxRecDepth 20000 in
theorem gwp_0 : Cond.selects "GrassBridge$Season" ⟨"GrassBridge$Season", "forgetRain", "()V"⟩ ⟨"GrassBridge$Season", "forgetRain", "()V"⟩ ∈ gT := gT_p (i := 0) rfl rfl
set_option maxRecDepth 20000 in
theorem gwp_1 : Cond.selects "GrassBridge" ⟨"GrassBridge", "refuseAsTold", "(I)I"⟩ ⟨"GrassBridge", "refuseAsTold", "(I)I"⟩ ∈ gT := gT_p (i := 1) rfl rfl
set_option maxRecDepth 20000 in
theorem gwp_2 : Cond.selects "GrassBridge" ⟨"GrassBridge", "refuse", "(I)I"⟩ ⟨"GrassBridge", "refuse", "(I)I"⟩ ∈ gT := gT_p (i := 2) rfl rfl
set_option maxRecDepth 20000 in
theorem gwp_3 : Cond.selects "GrassBridge" ⟨"GrassBridge", "passWeek", "()V"⟩ ⟨"GrassBridge", "passWeek", "()V"⟩ ∈ gT := gT_p (i := 3) rfl rfl
set_option maxRecDepth 20000 in
theorem gwp_4 : Cond.selects "GrassBridge$RopeYard" ⟨"GrassBridge$RopeYard", "keep", "(LGrassBridge$Rope;)I"⟩ ⟨"GrassBridge$RopeYard", "keep", "(LGrassBridge$Rope;)I"⟩ ∈ gT := gT_p (i := 4) rfl rfl
set_option maxRecDepth 20000 in
theorem gwp_5 : Cond.selects "GrassBridge$Planner" ⟨"GrassBridge$Planner", "sumSets", "()V"⟩ ⟨"GrassBridge$Planner", "sumSets", "()V"⟩ ∈ gT := gT_p (i := 5) rfl rfl
set_option maxRecDepth 20000 in
theorem gwp_6 : Cond.selects "GrassBridge$Planner" ⟨"GrassBridge$Planner", "measureRests", "()V"⟩ ⟨"GrassBridge$Planner", "measureRests", "()V"⟩ ∈ gT := gT_p (i := 6) rfl rfl
set_option maxRecDepth 20000 in
theorem gwp_7 : Cond.selects "GrassBridge$Planner" ⟨"GrassBridge$Planner", "openFrom", "(I)I"⟩ ⟨"GrassBridge$Planner", "openFrom", "(I)I"⟩ ∈ gT := gT_p (i := 7) rfl rfl
set_option maxRecDepth 20000 in
theorem gwp_8 : Cond.selects "GrassBridge$Planner" ⟨"GrassBridge$Planner", "may", "(II)Z"⟩ ⟨"GrassBridge$Planner", "may", "(II)Z"⟩ ∈ gT := gT_p (i := 8) rfl rfl
set_option maxRecDepth 20000 in
theorem gwp_9 : Cond.selects "GrassBridge$Planner" ⟨"GrassBridge$Planner", "restFrom", "(I)I"⟩ ⟨"GrassBridge$Planner", "restFrom", "(I)I"⟩ ∈ gT := gT_p (i := 9) rfl rfl
set_option maxRecDepth 20000 in
theorem gwp_10 : Cond.selects "GrassBridge$Planner" ⟨"GrassBridge$Planner", "restGrouped", "(III)I"⟩ ⟨"GrassBridge$Planner", "restGrouped", "(III)I"⟩ ∈ gT := gT_p (i := 10) rfl rfl
set_option maxRecDepth 20000 in
theorem gwp_11 : Cond.selects "GrassBridge$Planner" ⟨"GrassBridge$Planner", "chooseRow", "()V"⟩ ⟨"GrassBridge$Planner", "chooseRow", "()V"⟩ ∈ gT := gT_p (i := 11) rfl rfl
set_option maxRecDepth 20000 in
theorem gwp_12 : Cond.selects "GrassBridge$Planner" ⟨"GrassBridge$Planner", "firstOfBest", "(I)I"⟩ ⟨"GrassBridge$Planner", "firstOfBest", "(I)I"⟩ ∈ gT := gT_p (i := 12) rfl rfl
set_option maxRecDepth 20000 in
theorem gwp_13 : Cond.selects "GrassBridge$Planner" ⟨"GrassBridge$Planner", "daysWith", "(II)I"⟩ ⟨"GrassBridge$Planner", "daysWith", "(II)I"⟩ ∈ gT := gT_p (i := 13) rfl rfl
set_option maxRecDepth 20000 in
theorem gwp_14 : Cond.selects "GrassBridge$Planner" ⟨"GrassBridge$Planner", "spentWith", "(I)I"⟩ ⟨"GrassBridge$Planner", "spentWith", "(I)I"⟩ ∈ gT := gT_p (i := 14) rfl rfl
set_option maxRecDepth 20000 in
theorem gwp_15 : Cond.selects "GrassBridge$People" ⟨"GrassBridge$People", "nextOf", "(II)I"⟩ ⟨"GrassBridge$People", "nextOf", "(II)I"⟩ ∈ gT := gT_p (i := 15) rfl rfl
set_option maxRecDepth 20000 in
theorem gwp_16 : Cond.selects "GrassBridge$People" ⟨"GrassBridge$People", "behind", "(I)I"⟩ ⟨"GrassBridge$People", "behind", "(I)I"⟩ ∈ gT := gT_p (i := 16) rfl rfl
set_option maxRecDepth 20000 in
theorem gwp_17 : Cond.selects "GrassBridgeModel" ⟨"GrassBridgeModel", "refuseFar", "(I)I"⟩ ⟨"GrassBridgeModel", "refuseFar", "(I)I"⟩ ∈ gT := gT_p (i := 17) rfl rfl
set_option maxRecDepth 20000 in
theorem gwp_18 : Cond.selects "GrassBridgeModel" ⟨"GrassBridgeModel", "refuse", "(I)I"⟩ ⟨"GrassBridgeModel", "refuse", "(I)I"⟩ ∈ gT := gT_p (i := 18) rfl rfl
set_option maxRecDepth 20000 in
theorem gwp_19 : Cond.selects "GrassBridgeModel" ⟨"GrassBridgeModel", "counts", "(I)I"⟩ ⟨"GrassBridgeModel", "counts", "(I)I"⟩ ∈ gT := gT_p (i := 19) rfl rfl
set_option maxRecDepth 20000 in
theorem gwp_20 : Cond.selects "GrassBridgeModel" ⟨"GrassBridgeModel", "isHouse", "(I)Z"⟩ ⟨"GrassBridgeModel", "isHouse", "(I)Z"⟩ ∈ gT := gT_p (i := 20) rfl rfl
set_option maxRecDepth 20000 in
theorem gwp_21 : Cond.selects "GrassBridgeModel" ⟨"GrassBridgeModel", "shareOf", "(I)I"⟩ ⟨"GrassBridgeModel", "shareOf", "(I)I"⟩ ∈ gT := gT_p (i := 21) rfl rfl
set_option maxRecDepth 20000 in
theorem gwp_22 : Cond.selects "GrassBridgeModel" ⟨"GrassBridgeModel", "allHands", "()I"⟩ ⟨"GrassBridgeModel", "allHands", "()I"⟩ ∈ gT := gT_p (i := 22) rfl rfl
set_option maxRecDepth 20000 in
theorem gwp_23 : Cond.selects "GrassBridgeModel" ⟨"GrassBridgeModel", "cordsLeft", "(I)I"⟩ ⟨"GrassBridgeModel", "cordsLeft", "(I)I"⟩ ∈ gT := gT_p (i := 23) rfl rfl
set_option maxRecDepth 20000 in
theorem gwp_24 : Cond.selects "GrassBridgeModel" ⟨"GrassBridgeModel", "adds", "(IIIII)I"⟩ ⟨"GrassBridgeModel", "adds", "(IIIII)I"⟩ ∈ gT := gT_p (i := 24) rfl rfl
set_option maxRecDepth 20000 in
theorem gwp_25 : Cond.selects "GrassBridgeModel" ⟨"GrassBridgeModel", "isRope", "(I)Z"⟩ ⟨"GrassBridgeModel", "isRope", "(I)Z"⟩ ∈ gT := gT_p (i := 25) rfl rfl
set_option maxRecDepth 20000 in
theorem gwp_26 : Cond.selects "GrassBridgeModel" ⟨"GrassBridgeModel", "isFree", "(I)Z"⟩ ⟨"GrassBridgeModel", "isFree", "(I)Z"⟩ ∈ gT := gT_p (i := 26) rfl rfl
set_option maxRecDepth 20000 in
theorem gwp_27 : Cond.selects "GrassBridgeModel" ⟨"GrassBridgeModel", "strandsOf", "(II)I"⟩ ⟨"GrassBridgeModel", "strandsOf", "(II)I"⟩ ∈ gT := gT_p (i := 27) rfl rfl
set_option maxRecDepth 20000 in
theorem gwp_28 : Cond.selects "GrassBridgeModel" ⟨"GrassBridgeModel", "gone", "(I)I"⟩ ⟨"GrassBridgeModel", "gone", "(I)I"⟩ ∈ gT := gT_p (i := 28) rfl rfl
set_option maxRecDepth 20000 in
theorem gwp_29 : Cond.selects "GrassBridgeModel" ⟨"GrassBridgeModel", "strengthOf", "(II)I"⟩ ⟨"GrassBridgeModel", "strengthOf", "(II)I"⟩ ∈ gT := gT_p (i := 29) rfl rfl
set_option maxRecDepth 20000 in
theorem gwp_30 : Cond.selects "GrassBridgeModel" ⟨"GrassBridgeModel", "bearsWith", "(I)I"⟩ ⟨"GrassBridgeModel", "bearsWith", "(I)I"⟩ ∈ gT := gT_p (i := 30) rfl rfl
set_option maxRecDepth 20000 in
theorem gwp_31 : Cond.selects "GrassBridgeModel" ⟨"GrassBridgeModel", "isLet", "(II)Z"⟩ ⟨"GrassBridgeModel", "isLet", "(II)Z"⟩ ∈ gT := gT_p (i := 31) rfl rfl
set_option maxRecDepth 20000 in
theorem gwp_32 : Cond.selects "GrassBridgeModel" ⟨"GrassBridgeModel", "wetOf", "(I)I"⟩ ⟨"GrassBridgeModel", "wetOf", "(I)I"⟩ ∈ gT := gT_p (i := 32) rfl rfl
set_option maxRecDepth 20000 in
theorem gwp_33 : Cond.selects "GrassBridgeModel" ⟨"GrassBridgeModel", "breaks", "(I)V"⟩ ⟨"GrassBridgeModel", "breaks", "(I)V"⟩ ∈ gT := gT_p (i := 33) rfl rfl
set_option maxRecDepth 20000 in
theorem gwp_34 : Cond.selects "GrassBridgeModel" ⟨"GrassBridgeModel", "plans", "()V"⟩ ⟨"GrassBridgeModel", "plans", "()V"⟩ ∈ gT := gT_p (i := 34) rfl rfl
set_option maxRecDepth 20000 in
theorem gwp_35 : Cond.selects "GrassBridgeModel" ⟨"GrassBridgeModel", "tries", "(IIIIZ)V"⟩ ⟨"GrassBridgeModel", "tries", "(IIIIZ)V"⟩ ∈ gT := gT_p (i := 35) rfl rfl
set_option maxRecDepth 20000 in
theorem gwp_36 : Cond.selects "GrassBridgeModel" ⟨"GrassBridgeModel", "daysOf", "()I"⟩ ⟨"GrassBridgeModel", "daysOf", "()I"⟩ ∈ gT := gT_p (i := 36) rfl rfl
set_option maxRecDepth 20000 in
theorem gwp_37 : Cond.selects "GrassBridgeModel" ⟨"GrassBridgeModel", "lineOf", "(I)I"⟩ ⟨"GrassBridgeModel", "lineOf", "(I)I"⟩ ∈ gT := gT_p (i := 37) rfl rfl
set_option maxRecDepth 20000 in
theorem gwp_38 : Cond.selects "GrassBridgeModel" ⟨"GrassBridgeModel", "child", "(II)I"⟩ ⟨"GrassBridgeModel", "child", "(II)I"⟩ ∈ gT := gT_p (i := 38) rfl rfl
set_option maxRecDepth 20000 in
theorem gwp_39 : Cond.selects "GrassBridgeModel" ⟨"GrassBridgeModel", "isBefore", "(II)Z"⟩ ⟨"GrassBridgeModel", "isBefore", "(II)Z"⟩ ∈ gT := gT_p (i := 39) rfl rfl
def gf0 : u_T := fun k => match k with
  | 0 => ("GrassBridge$Break", "rope", "LGrassBridge$Rope;", true)
  | 1 => ("GrassBridge$Break", "year", "I", true)
  | _ => ("GrassBridge$Break", "week", "I", true)
def gf1 : u_T := fun k => match k with
  | 0 => ("GrassBridge$Breaks", "kept", "[LGrassBridge$Break;", true)
  | _ => ("GrassBridge$Breaks", "count", "I", false)
def gf2 : u_T := fun k => match k with
  | 0 => ("GrassBridge$House", "number", "I", true)
  | 1 => ("GrassBridge$House", "village", "I", true)
  | 2 => ("GrassBridge$House", "hands", "I", false)
  | 3 => ("GrassBridge$House", "care", "I", false)
  | 4 => ("GrassBridge$House", "here", "Z", false)
  | 5 => ("GrassBridge$House", "fathoms", "I", false)
  | 6 => ("GrassBridge$House", "doubt", "I", false)
  | 7 => ("GrassBridge$House", "cordsLaid", "I", false)
  | _ => ("GrassBridge$House", "owed", "I", false)
def gf3 : u_T := fun k => match k with
  | 0 => ("GrassBridge$Houses", "all", "[LGrassBridge$House;", true)
  | 1 => ("GrassBridge$Houses", "shares", "[I", true)
  | 2 => ("GrassBridge$Houses", "count", "I", false)
  | _ => ("GrassBridge$Houses", "asked", "I", false)
def gf4 : u_T := fun k => match k with
  | 0 => ("GrassBridge$People", "parents", "[I", true)
  | 1 => ("GrassBridge$People", "births", "[I", true)
  | 2 => ("GrassBridge$People", "living", "[Z", true)
  | 3 => ("GrassBridge$People", "ranks", "[I", true)
  | _ => ("GrassBridge$People", "count", "I", false)
def gf5 : u_T := fun k => match k with
  | 0 => ("GrassBridge$Planner", "work", "LGrassBridge$Work;", true)
  | 1 => ("GrassBridge$Planner", "hung", "[I", true)
  | 2 => ("GrassBridge$Planner", "handsTogether", "[I", true)
  | 3 => ("GrassBridge$Planner", "longest", "[I", true)
  | 4 => ("GrassBridge$Planner", "rest", "[I", true)
  | 5 => ("GrassBridge$Planner", "open", "[I", true)
  | 6 => ("GrassBridge$Planner", "row", "[I", true)
  | 7 => ("GrassBridge$Planner", "done", "[I", true)
  | 8 => ("GrassBridge$Planner", "spent", "[I", true)
  | 9 => ("GrassBridge$Planner", "steps", "I", false)
  | 10 => ("GrassBridge$Planner", "leads", "I", false)
  | 11 => ("GrassBridge$Planner", "tunes", "I", false)
  | 12 => ("GrassBridge$Planner", "seenHung", "I", false)
  | 13 => ("GrassBridge$Planner", "seenHands", "I", false)
  | _ => ("GrassBridge$Planner", "seenChanges", "I", false)
def gf6 : u_T := fun k => match k with
  | 0 => ("GrassBridge$Rope", "number", "I", true)
  | 1 => ("GrassBridge$Rope", "kind", "I", true)
  | 2 => ("GrassBridge$Rope", "soundness", "I", true)
  | 3 => ("GrassBridge$Rope", "yearLaid", "I", true)
  | 4 => ("GrassBridge$Rope", "owners", "[I", true)
  | 5 => ("GrassBridge$Rope", "cares", "[I", true)
  | 6 => ("GrassBridge$Rope", "laidOn", "Z", false)
  | 7 => ("GrassBridge$Rope", "hungOnce", "Z", false)
  | _ => ("GrassBridge$Rope", "place", "I", false)
def gf7 : u_T := fun k => match k with
  | 0 => ("GrassBridge$RopeYard", "ropes", "[LGrassBridge$Rope;", true)
  | _ => ("GrassBridge$RopeYard", "count", "I", false)
def gf8 : u_T := fun k => match k with
  | 0 => ("GrassBridge$Season", "year", "I", false)
  | 1 => ("GrassBridge$Season", "week", "I", false)
  | _ => ("GrassBridge$Season", "told", "[I", true)
def gf9 : u_T := fun k => match k with
  | 0 => ("GrassBridge$Span", "ropes", "[LGrassBridge$Rope;", true)
  | 1 => ("GrassBridge$Span", "tensions", "[I", true)
  | 2 => ("GrassBridge$Span", "wet", "[I", true)
  | _ => ("GrassBridge$Span", "yearHung", "[I", true)
def gf10 : u_T := fun k => match k with
  | 0 => ("GrassBridge$Work", "kinds", "[I", true)
  | 1 => ("GrassBridge$Work", "places", "[I", true)
  | 2 => ("GrassBridge$Work", "days", "[I", true)
  | 3 => ("GrassBridge$Work", "hands", "[I", true)
  | 4 => ("GrassBridge$Work", "afters", "[I", true)
  | 5 => ("GrassBridge$Work", "count", "I", false)
  | _ => ("GrassBridge$Work", "changes", "I", false)
def gf11 : u_T := fun k => match k with
  | 0 => ("GrassBridge", "refusals", "[I", true)
  | 1 => ("GrassBridge", "season", "LGrassBridge$Season;", true)
  | 2 => ("GrassBridge", "houses", "LGrassBridge$Houses;", true)
  | 3 => ("GrassBridge", "yard", "LGrassBridge$RopeYard;", true)
  | 4 => ("GrassBridge", "span", "LGrassBridge$Span;", true)
  | 5 => ("GrassBridge", "breaks", "LGrassBridge$Breaks;", true)
  | 6 => ("GrassBridge", "work", "LGrassBridge$Work;", true)
  | 7 => ("GrassBridge", "planner", "LGrassBridge$Planner;", true)
  | _ => ("GrassBridge", "people", "LGrassBridge$People;", true)
def gf12 : u_T := fun k => match k with
  | 0 => ("GrassBridgeModel", "refusals", "[I", true)
  | 1 => ("GrassBridgeModel", "rains", "[I", true)
  | 2 => ("GrassBridgeModel", "year", "I", false)
  | 3 => ("GrassBridgeModel", "week", "I", false)
  | 4 => ("GrassBridgeModel", "houses", "I", false)
  | 5 => ("GrassBridgeModel", "ropes", "I", false)
  | 6 => ("GrassBridgeModel", "asked", "I", false)
  | 7 => ("GrassBridgeModel", "brokenMany", "I", false)
  | 8 => ("GrassBridgeModel", "steps", "I", false)
  | 9 => ("GrassBridgeModel", "people", "I", false)
  | 10 => ("GrassBridgeModel", "village", "[I", true)
  | 11 => ("GrassBridgeModel", "hands", "[I", true)
  | 12 => ("GrassBridgeModel", "care", "[I", true)
  | 13 => ("GrassBridgeModel", "fathoms", "[I", true)
  | 14 => ("GrassBridgeModel", "doubt", "[I", true)
  | 15 => ("GrassBridgeModel", "used", "[I", true)
  | 16 => ("GrassBridgeModel", "owed", "[I", true)
  | 17 => ("GrassBridgeModel", "here", "[Z", true)
  | 18 => ("GrassBridgeModel", "has", "[Z", true)
  | 19 => ("GrassBridgeModel", "ropeKind", "[I", true)
  | 20 => ("GrassBridgeModel", "sound", "[I", true)
  | 21 => ("GrassBridgeModel", "laid", "[I", true)
  | 22 => ("GrassBridgeModel", "place", "[I", true)
  | 23 => ("GrassBridgeModel", "part", "[I", true)
  | 24 => ("GrassBridgeModel", "cares", "[I", true)
  | 25 => ("GrassBridgeModel", "isUsed", "[Z", true)
  | 26 => ("GrassBridgeModel", "hung", "[I", true)
  | 27 => ("GrassBridgeModel", "tension", "[I", true)
  | 28 => ("GrassBridgeModel", "wet", "[I", true)
  | 29 => ("GrassBridgeModel", "years", "[I", true)
  | 30 => ("GrassBridgeModel", "broken", "[I", true)
  | 31 => ("GrassBridgeModel", "shares", "[I", true)
  | 32 => ("GrassBridgeModel", "smalls", "[I", true)
  | 33 => ("GrassBridgeModel", "stepKind", "[I", true)
  | 34 => ("GrassBridgeModel", "stepPlace", "[I", true)
  | 35 => ("GrassBridgeModel", "days", "[I", true)
  | 36 => ("GrassBridgeModel", "needs", "[I", true)
  | 37 => ("GrassBridgeModel", "after", "[I", true)
  | 38 => ("GrassBridgeModel", "row", "[I", true)
  | 39 => ("GrassBridgeModel", "best", "[I", true)
  | 40 => ("GrassBridgeModel", "daysTo", "[I", true)
  | 41 => ("GrassBridgeModel", "bestDays", "I", false)
  | 42 => ("GrassBridgeModel", "parent", "[I", true)
  | 43 => ("GrassBridgeModel", "born", "[I", true)
  | _ => ("GrassBridgeModel", "isAlive", "[Z", true)
def gcl : List vw_C := [("GrassBridge$Break", gf0, 3), ("GrassBridge$Breaks", gf1, 2), ("GrassBridge$House", gf2, 9), ("GrassBridge$Houses", gf3, 4), ("GrassBridge$People", gf4, 5), ("GrassBridge$Planner", gf5, 15), ("GrassBridge$Rope", gf6, 9), ("GrassBridge$RopeYard", gf7, 2), ("GrassBridge$Season", gf8, 3), ("GrassBridge$Span", gf9, 4), ("GrassBridge$Work", gf10, 7), ("GrassBridge", gf11, 9), ("GrassBridgeModel", gf12, 45)]
def gtyL : List (List FieldType) := [[.object "GrassBridge$Rope", .int, .int], [.array (.object "GrassBridge$Break"), .int], [.int, .int, .int, .int, .boolean, .int, .int, .int, .int], [.array (.object "GrassBridge$House"), .array .int, .int, .int], [.array .int, .array .int, .array .boolean, .array .int, .int], [.object "GrassBridge$Work", .array .int, .array .int, .array .int, .array .int, .array .int, .array .int, .array .int, .array .int, .int, .int, .int, .int, .int, .int], [.int, .int, .int, .int, .array .int, .array .int, .boolean, .boolean, .int], [.array (.object "GrassBridge$Rope"), .int], [.int, .int, .array .int], [.array (.object "GrassBridge$Rope"), .array .int, .array .int, .array .int], [.array .int, .array .int, .array .int, .array .int, .array .int, .int, .int], [.array .int, .object "GrassBridge$Season", .object "GrassBridge$Houses", .object "GrassBridge$RopeYard", .object "GrassBridge$Span", .object "GrassBridge$Breaks", .object "GrassBridge$Work", .object "GrassBridge$Planner", .object "GrassBridge$People"], [.array .int, .array .int, .int, .int, .int, .int, .int, .int, .int, .int, .array .int, .array .int, .array .int, .array .int, .array .int, .array .int, .array .int, .array .boolean, .array .boolean, .array .int, .array .int, .array .int, .array .int, .array .int, .array .int, .array .boolean, .array .int, .array .int, .array .int, .array .int, .array .int, .array .int, .array .int, .array .int, .array .int, .array .int, .array .int, .array .int, .array .int, .array .int, .array .int, .int, .array .int, .array .int, .array .boolean]]
def gty (ci k : Nat) : FieldType := (gtyL.getD ci []).getD k .int
def girL : List (List Bool) := [[true, false, false], [true, false], [false, false, false, false, false, false, false, false, false], [true, true, false, false], [true, true, true, true, false], [true, true, true, true, true, true, true, true, true, false, false, false, false, false, false], [false, false, false, false, true, true, false, false, false], [true, false], [false, false, true], [true, true, true, true], [true, true, true, true, true, false, false], [true, true, true, true, true, true, true, true, true], [true, true, false, false, false, false, false, false, false, false, true, true, true, true, true, true, true, true, true, true, true, true, true, true, true, true, true, true, true, true, true, true, true, true, true, true, true, true, true, true, true, false, true, true, true]]
def gIsR (ci k : Nat) : Bool := (girL.getD ci []).getD k false
theorem gin0 : ∀ w ∈ u_ws "GrassBridge$Break" gf0 3, w ∈ gT := by
  intro w hw
  obtain ⟨k, hk, rfl⟩ := List.mem_map.mp hw
  have hk := List.mem_range.mp hk
  match k, hk with
  | 0, _ => exact gw2_134
  | 1, _ => exact gw2_136
  | 2, _ => exact gw2_138
  | k + 3, h => exact absurd h (by omega)
theorem gtk0 : ∀ k, k < 3 → parseFieldDescriptor (gf0 k).2.2.1 = some (gty 0 k) := by decide +kernel
theorem gnm0 : ∀ a, a < 3 → ∀ b, b < 3 → a ≠ b → (gf0 a).2.1 ≠ (gf0 b).2.1 := by decide +kernel
theorem gdf0 : ∀ k, k < 3 → defaultValue (gty 0 k) = if gIsR 0 k then .null else .int 0 := by decide +kernel
theorem ged0 : ∀ k, k < 3 → (gf0 k).1 = "GrassBridge$Break" := by decide +kernel
theorem gin1 : ∀ w ∈ u_ws "GrassBridge$Breaks" gf1 2, w ∈ gT := by
  intro w hw
  obtain ⟨k, hk, rfl⟩ := List.mem_map.mp hw
  have hk := List.mem_range.mp hk
  match k, hk with
  | 0, _ => exact gw1_118
  | 1, _ => exact gw1_120
  | k + 2, h => exact absurd h (by omega)
theorem gtk1 : ∀ k, k < 2 → parseFieldDescriptor (gf1 k).2.2.1 = some (gty 1 k) := by decide +kernel
theorem gnm1 : ∀ a, a < 2 → ∀ b, b < 2 → a ≠ b → (gf1 a).2.1 ≠ (gf1 b).2.1 := by decide +kernel
theorem gdf1 : ∀ k, k < 2 → defaultValue (gty 1 k) = if gIsR 1 k then .null else .int 0 := by decide +kernel
theorem ged1 : ∀ k, k < 2 → (gf1 k).1 = "GrassBridge$Breaks" := by decide +kernel
theorem gin2 : ∀ w ∈ u_ws "GrassBridge$House" gf2 9, w ∈ gT := by
  intro w hw
  obtain ⟨k, hk, rfl⟩ := List.mem_map.mp hw
  have hk := List.mem_range.mp hk
  match k, hk with
  | 0, _ => exact gw2_176
  | 1, _ => exact gw2_178
  | 2, _ => exact gw2_180
  | 3, _ => exact gw2_182
  | 4, _ => exact gw2_184
  | 5, _ => exact gw2_186
  | 6, _ => exact gw2_188
  | 7, _ => exact gw2_190
  | 8, _ => exact gw2_192
  | k + 9, h => exact absurd h (by omega)
theorem gtk2 : ∀ k, k < 9 → parseFieldDescriptor (gf2 k).2.2.1 = some (gty 2 k) := by decide +kernel
theorem gnm2 : ∀ a, a < 9 → ∀ b, b < 9 → a ≠ b → (gf2 a).2.1 ≠ (gf2 b).2.1 := by decide +kernel
theorem gdf2 : ∀ k, k < 9 → defaultValue (gty 2 k) = if gIsR 2 k then .null else .int 0 := by decide +kernel
theorem ged2 : ∀ k, k < 9 → (gf2 k).1 = "GrassBridge$House" := by decide +kernel
theorem gin3 : ∀ w ∈ u_ws "GrassBridge$Houses" gf3 4, w ∈ gT := by
  intro w hw
  obtain ⟨k, hk, rfl⟩ := List.mem_map.mp hw
  have hk := List.mem_range.mp hk
  match k, hk with
  | 0, _ => exact gw1_62
  | 1, _ => exact gw1_64
  | 2, _ => exact gw1_66
  | 3, _ => exact gw1_68
  | k + 4, h => exact absurd h (by omega)
theorem gtk3 : ∀ k, k < 4 → parseFieldDescriptor (gf3 k).2.2.1 = some (gty 3 k) := by decide +kernel
theorem gnm3 : ∀ a, a < 4 → ∀ b, b < 4 → a ≠ b → (gf3 a).2.1 ≠ (gf3 b).2.1 := by decide +kernel
theorem gdf3 : ∀ k, k < 4 → defaultValue (gty 3 k) = if gIsR 3 k then .null else .int 0 := by decide +kernel
theorem ged3 : ∀ k, k < 4 → (gf3 k).1 = "GrassBridge$Houses" := by decide +kernel
theorem gin4 : ∀ w ∈ u_ws "GrassBridge$People" gf4 5, w ∈ gT := by
  intro w hw
  obtain ⟨k, hk, rfl⟩ := List.mem_map.mp hw
  have hk := List.mem_range.mp hk
  match k, hk with
  | 0, _ => exact gw1_223
  | 1, _ => exact gw1_225
  | 2, _ => exact gw1_227
  | 3, _ => exact gw1_229
  | 4, _ => exact gw1_231
  | k + 5, h => exact absurd h (by omega)
theorem gtk4 : ∀ k, k < 5 → parseFieldDescriptor (gf4 k).2.2.1 = some (gty 4 k) := by decide +kernel
theorem gnm4 : ∀ a, a < 5 → ∀ b, b < 5 → a ≠ b → (gf4 a).2.1 ≠ (gf4 b).2.1 := by decide +kernel
theorem gdf4 : ∀ k, k < 5 → defaultValue (gty 4 k) = if gIsR 4 k then .null else .int 0 := by decide +kernel
theorem ged4 : ∀ k, k < 5 → (gf4 k).1 = "GrassBridge$People" := by decide +kernel
theorem gin5 : ∀ w ∈ u_ws "GrassBridge$Planner" gf5 15, w ∈ gT := by
  intro w hw
  obtain ⟨k, hk, rfl⟩ := List.mem_map.mp hw
  have hk := List.mem_range.mp hk
  match k, hk with
  | 0, _ => exact gw1_180
  | 1, _ => exact gw1_182
  | 2, _ => exact gw1_184
  | 3, _ => exact gw1_186
  | 4, _ => exact gw1_188
  | 5, _ => exact gw1_190
  | 6, _ => exact gw1_192
  | 7, _ => exact gw1_194
  | 8, _ => exact gw1_196
  | 9, _ => exact gw1_198
  | 10, _ => exact gw1_200
  | 11, _ => exact gw1_202
  | 12, _ => exact gw1_204
  | 13, _ => exact gw1_206
  | 14, _ => exact gw1_208
  | k + 15, h => exact absurd h (by omega)
theorem gtk5 : ∀ k, k < 15 → parseFieldDescriptor (gf5 k).2.2.1 = some (gty 5 k) := by decide +kernel
theorem gnm5 : ∀ a, a < 15 → ∀ b, b < 15 → a ≠ b → (gf5 a).2.1 ≠ (gf5 b).2.1 := by decide +kernel
theorem gdf5 : ∀ k, k < 15 → defaultValue (gty 5 k) = if gIsR 5 k then .null else .int 0 := by decide +kernel
theorem ged5 : ∀ k, k < 15 → (gf5 k).1 = "GrassBridge$Planner" := by decide +kernel
theorem gin6 : ∀ w ∈ u_ws "GrassBridge$Rope" gf6 9, w ∈ gT := by
  intro w hw
  obtain ⟨k, hk, rfl⟩ := List.mem_map.mp hw
  have hk := List.mem_range.mp hk
  match k, hk with
  | 0, _ => exact gw3_49
  | 1, _ => exact gw3_51
  | 2, _ => exact gw3_53
  | 3, _ => exact gw3_55
  | 4, _ => exact gw3_57
  | 5, _ => exact gw3_59
  | 6, _ => exact gw3_61
  | 7, _ => exact gw3_63
  | 8, _ => exact gw3_65
  | k + 9, h => exact absurd h (by omega)
theorem gtk6 : ∀ k, k < 9 → parseFieldDescriptor (gf6 k).2.2.1 = some (gty 6 k) := by decide +kernel
theorem gnm6 : ∀ a, a < 9 → ∀ b, b < 9 → a ≠ b → (gf6 a).2.1 ≠ (gf6 b).2.1 := by decide +kernel
theorem gdf6 : ∀ k, k < 9 → defaultValue (gty 6 k) = if gIsR 6 k then .null else .int 0 := by decide +kernel
theorem ged6 : ∀ k, k < 9 → (gf6 k).1 = "GrassBridge$Rope" := by decide +kernel
theorem gin7 : ∀ w ∈ u_ws "GrassBridge$RopeYard" gf7 2, w ∈ gT := by
  intro w hw
  obtain ⟨k, hk, rfl⟩ := List.mem_map.mp hw
  have hk := List.mem_range.mp hk
  match k, hk with
  | 0, _ => exact gw1_82
  | 1, _ => exact gw1_84
  | k + 2, h => exact absurd h (by omega)
theorem gtk7 : ∀ k, k < 2 → parseFieldDescriptor (gf7 k).2.2.1 = some (gty 7 k) := by decide +kernel
theorem gnm7 : ∀ a, a < 2 → ∀ b, b < 2 → a ≠ b → (gf7 a).2.1 ≠ (gf7 b).2.1 := by decide +kernel
theorem gdf7 : ∀ k, k < 2 → defaultValue (gty 7 k) = if gIsR 7 k then .null else .int 0 := by decide +kernel
theorem ged7 : ∀ k, k < 2 → (gf7 k).1 = "GrassBridge$RopeYard" := by decide +kernel
theorem gin8 : ∀ w ∈ u_ws "GrassBridge$Season" gf8 3, w ∈ gT := by
  intro w hw
  obtain ⟨k, hk, rfl⟩ := List.mem_map.mp hw
  have hk := List.mem_range.mp hk
  match k, hk with
  | 0, _ => exact gw1_40
  | 1, _ => exact gw1_42
  | 2, _ => exact gw1_44
  | k + 3, h => exact absurd h (by omega)
theorem gtk8 : ∀ k, k < 3 → parseFieldDescriptor (gf8 k).2.2.1 = some (gty 8 k) := by decide +kernel
theorem gnm8 : ∀ a, a < 3 → ∀ b, b < 3 → a ≠ b → (gf8 a).2.1 ≠ (gf8 b).2.1 := by decide +kernel
theorem gdf8 : ∀ k, k < 3 → defaultValue (gty 8 k) = if gIsR 8 k then .null else .int 0 := by decide +kernel
theorem ged8 : ∀ k, k < 3 → (gf8 k).1 = "GrassBridge$Season" := by decide +kernel
theorem gin9 : ∀ w ∈ u_ws "GrassBridge$Span" gf9 4, w ∈ gT := by
  intro w hw
  obtain ⟨k, hk, rfl⟩ := List.mem_map.mp hw
  have hk := List.mem_range.mp hk
  match k, hk with
  | 0, _ => exact gw1_98
  | 1, _ => exact gw1_100
  | 2, _ => exact gw1_102
  | 3, _ => exact gw1_104
  | k + 4, h => exact absurd h (by omega)
theorem gtk9 : ∀ k, k < 4 → parseFieldDescriptor (gf9 k).2.2.1 = some (gty 9 k) := by decide +kernel
theorem gnm9 : ∀ a, a < 4 → ∀ b, b < 4 → a ≠ b → (gf9 a).2.1 ≠ (gf9 b).2.1 := by decide +kernel
theorem gdf9 : ∀ k, k < 4 → defaultValue (gty 9 k) = if gIsR 9 k then .null else .int 0 := by decide +kernel
theorem ged9 : ∀ k, k < 4 → (gf9 k).1 = "GrassBridge$Span" := by decide +kernel
theorem gin10 : ∀ w ∈ u_ws "GrassBridge$Work" gf10 7, w ∈ gT := by
  intro w hw
  obtain ⟨k, hk, rfl⟩ := List.mem_map.mp hw
  have hk := List.mem_range.mp hk
  match k, hk with
  | 0, _ => exact gw1_144
  | 1, _ => exact gw1_146
  | 2, _ => exact gw1_148
  | 3, _ => exact gw1_150
  | 4, _ => exact gw1_152
  | 5, _ => exact gw1_154
  | 6, _ => exact gw1_156
  | k + 7, h => exact absurd h (by omega)
theorem gtk10 : ∀ k, k < 7 → parseFieldDescriptor (gf10 k).2.2.1 = some (gty 10 k) := by decide +kernel
theorem gnm10 : ∀ a, a < 7 → ∀ b, b < 7 → a ≠ b → (gf10 a).2.1 ≠ (gf10 b).2.1 := by decide +kernel
theorem gdf10 : ∀ k, k < 7 → defaultValue (gty 10 k) = if gIsR 10 k then .null else .int 0 := by decide +kernel
theorem ged10 : ∀ k, k < 7 → (gf10 k).1 = "GrassBridge$Work" := by decide +kernel
theorem gin11 : ∀ w ∈ u_ws "GrassBridge" gf11 9, w ∈ gT := by
  intro w hw
  obtain ⟨k, hk, rfl⟩ := List.mem_map.mp hw
  have hk := List.mem_range.mp hk
  match k, hk with
  | 0, _ => exact gw2_4
  | 1, _ => exact gw2_6
  | 2, _ => exact gw2_8
  | 3, _ => exact gw2_10
  | 4, _ => exact gw2_12
  | 5, _ => exact gw2_14
  | 6, _ => exact gw2_16
  | 7, _ => exact gw2_18
  | 8, _ => exact gw2_20
  | k + 9, h => exact absurd h (by omega)
theorem gtk11 : ∀ k, k < 9 → parseFieldDescriptor (gf11 k).2.2.1 = some (gty 11 k) := by decide +kernel
theorem gnm11 : ∀ a, a < 9 → ∀ b, b < 9 → a ≠ b → (gf11 a).2.1 ≠ (gf11 b).2.1 := by decide +kernel
theorem gdf11 : ∀ k, k < 9 → defaultValue (gty 11 k) = if gIsR 11 k then .null else .int 0 := by decide +kernel
theorem ged11 : ∀ k, k < 9 → (gf11 k).1 = "GrassBridge" := by decide +kernel
theorem gin12 : ∀ w ∈ u_ws "GrassBridgeModel" gf12 45, w ∈ gT := by
  intro w hw
  obtain ⟨k, hk, rfl⟩ := List.mem_map.mp hw
  have hk := List.mem_range.mp hk
  match k, hk with
  | 0, _ => exact gw4_126
  | 1, _ => exact gw4_128
  | 2, _ => exact gw4_130
  | 3, _ => exact gw4_132
  | 4, _ => exact gw4_134
  | 5, _ => exact gw4_136
  | 6, _ => exact gw4_138
  | 7, _ => exact gw4_140
  | 8, _ => exact gw4_142
  | 9, _ => exact gw4_144
  | 10, _ => exact gw4_146
  | 11, _ => exact gw4_148
  | 12, _ => exact gw4_150
  | 13, _ => exact gw4_152
  | 14, _ => exact gw4_154
  | 15, _ => exact gw4_156
  | 16, _ => exact gw4_158
  | 17, _ => exact gw4_160
  | 18, _ => exact gw4_162
  | 19, _ => exact gw4_164
  | 20, _ => exact gw4_166
  | 21, _ => exact gw4_168
  | 22, _ => exact gw4_170
  | 23, _ => exact gw4_172
  | 24, _ => exact gw4_174
  | 25, _ => exact gw4_176
  | 26, _ => exact gw4_178
  | 27, _ => exact gw4_180
  | 28, _ => exact gw4_182
  | 29, _ => exact gw4_184
  | 30, _ => exact gw4_186
  | 31, _ => exact gw4_188
  | 32, _ => exact gw4_190
  | 33, _ => exact gw4_192
  | 34, _ => exact gw4_194
  | 35, _ => exact gw4_196
  | 36, _ => exact gw4_198
  | 37, _ => exact gw4_200
  | 38, _ => exact gw4_202
  | 39, _ => exact gw4_204
  | 40, _ => exact gw4_206
  | 41, _ => exact gw4_208
  | 42, _ => exact gw4_210
  | 43, _ => exact gw4_212
  | 44, _ => exact gw4_214
  | k + 45, h => exact absurd h (by omega)
theorem gtk12 : ∀ k, k < 45 → parseFieldDescriptor (gf12 k).2.2.1 = some (gty 12 k) := by decide +kernel
theorem gnm12 : ∀ a, a < 45 → ∀ b, b < 45 → a ≠ b → (gf12 a).2.1 ≠ (gf12 b).2.1 := by decide +kernel
theorem gdf12 : ∀ k, k < 45 → defaultValue (gty 12 k) = if gIsR 12 k then .null else .int 0 := by decide +kernel
theorem ged12 : ∀ k, k < 45 → (gf12 k).1 = "GrassBridgeModel" := by decide +kernel
theorem gcl_in : ∀ (ci : Nat) (q : vw_C), gcl[ci]? = some q → ∀ w ∈ u_ws q.1 q.2.1 q.2.2, w ∈ gT := by
  intro ci q h
  match ci, h with
  | 0, h => exact (Option.some.inj h) ▸ gin0
  | 1, h => exact (Option.some.inj h) ▸ gin1
  | 2, h => exact (Option.some.inj h) ▸ gin2
  | 3, h => exact (Option.some.inj h) ▸ gin3
  | 4, h => exact (Option.some.inj h) ▸ gin4
  | 5, h => exact (Option.some.inj h) ▸ gin5
  | 6, h => exact (Option.some.inj h) ▸ gin6
  | 7, h => exact (Option.some.inj h) ▸ gin7
  | 8, h => exact (Option.some.inj h) ▸ gin8
  | 9, h => exact (Option.some.inj h) ▸ gin9
  | 10, h => exact (Option.some.inj h) ▸ gin10
  | 11, h => exact (Option.some.inj h) ▸ gin11
  | 12, h => exact (Option.some.inj h) ▸ gin12
  | k + 13, h => exact absurd h (by simp [gcl])
theorem gcl_ty : ∀ (ci : Nat) (q : vw_C), gcl[ci]? = some q → ∀ k, k < q.2.2 → parseFieldDescriptor (q.2.1 k).2.2.1 = some (gty ci k) := by
  intro ci q h
  match ci, h with
  | 0, h => exact (Option.some.inj h) ▸ gtk0
  | 1, h => exact (Option.some.inj h) ▸ gtk1
  | 2, h => exact (Option.some.inj h) ▸ gtk2
  | 3, h => exact (Option.some.inj h) ▸ gtk3
  | 4, h => exact (Option.some.inj h) ▸ gtk4
  | 5, h => exact (Option.some.inj h) ▸ gtk5
  | 6, h => exact (Option.some.inj h) ▸ gtk6
  | 7, h => exact (Option.some.inj h) ▸ gtk7
  | 8, h => exact (Option.some.inj h) ▸ gtk8
  | 9, h => exact (Option.some.inj h) ▸ gtk9
  | 10, h => exact (Option.some.inj h) ▸ gtk10
  | 11, h => exact (Option.some.inj h) ▸ gtk11
  | 12, h => exact (Option.some.inj h) ▸ gtk12
  | k + 13, h => exact absurd h (by simp [gcl])
theorem gcl_nm : ∀ (ci : Nat) (q : vw_C), gcl[ci]? = some q → ∀ a, a < q.2.2 → ∀ b, b < q.2.2 → a ≠ b → (q.2.1 a).2.1 ≠ (q.2.1 b).2.1 := by
  intro ci q h
  match ci, h with
  | 0, h => exact (Option.some.inj h) ▸ gnm0
  | 1, h => exact (Option.some.inj h) ▸ gnm1
  | 2, h => exact (Option.some.inj h) ▸ gnm2
  | 3, h => exact (Option.some.inj h) ▸ gnm3
  | 4, h => exact (Option.some.inj h) ▸ gnm4
  | 5, h => exact (Option.some.inj h) ▸ gnm5
  | 6, h => exact (Option.some.inj h) ▸ gnm6
  | 7, h => exact (Option.some.inj h) ▸ gnm7
  | 8, h => exact (Option.some.inj h) ▸ gnm8
  | 9, h => exact (Option.some.inj h) ▸ gnm9
  | 10, h => exact (Option.some.inj h) ▸ gnm10
  | 11, h => exact (Option.some.inj h) ▸ gnm11
  | 12, h => exact (Option.some.inj h) ▸ gnm12
  | k + 13, h => exact absurd h (by simp [gcl])
theorem gcl_df : ∀ (ci : Nat) (q : vw_C), gcl[ci]? = some q → ∀ k, k < q.2.2 → defaultValue (gty ci k) = if gIsR ci k then .null else .int 0 := by
  intro ci q h
  match ci, h with
  | 0, h => exact (Option.some.inj h) ▸ gdf0
  | 1, h => exact (Option.some.inj h) ▸ gdf1
  | 2, h => exact (Option.some.inj h) ▸ gdf2
  | 3, h => exact (Option.some.inj h) ▸ gdf3
  | 4, h => exact (Option.some.inj h) ▸ gdf4
  | 5, h => exact (Option.some.inj h) ▸ gdf5
  | 6, h => exact (Option.some.inj h) ▸ gdf6
  | 7, h => exact (Option.some.inj h) ▸ gdf7
  | 8, h => exact (Option.some.inj h) ▸ gdf8
  | 9, h => exact (Option.some.inj h) ▸ gdf9
  | 10, h => exact (Option.some.inj h) ▸ gdf10
  | 11, h => exact (Option.some.inj h) ▸ gdf11
  | 12, h => exact (Option.some.inj h) ▸ gdf12
  | k + 13, h => exact absurd h (by simp [gcl])
theorem gcl_ed : ∀ (ci : Nat) (q : vw_C), gcl[ci]? = some q → ∀ k, k < q.2.2 → (q.2.1 k).1 = q.1 := by
  intro ci q h
  match ci, h with
  | 0, h => exact (Option.some.inj h) ▸ ged0
  | 1, h => exact (Option.some.inj h) ▸ ged1
  | 2, h => exact (Option.some.inj h) ▸ ged2
  | 3, h => exact (Option.some.inj h) ▸ ged3
  | 4, h => exact (Option.some.inj h) ▸ ged4
  | 5, h => exact (Option.some.inj h) ▸ ged5
  | 6, h => exact (Option.some.inj h) ▸ ged6
  | 7, h => exact (Option.some.inj h) ▸ ged7
  | 8, h => exact (Option.some.inj h) ▸ ged8
  | 9, h => exact (Option.some.inj h) ▸ ged9
  | 10, h => exact (Option.some.inj h) ▸ ged10
  | 11, h => exact (Option.some.inj h) ▸ ged11
  | 12, h => exact (Option.some.inj h) ▸ ged12
  | k + 13, h => exact absurd h (by simp [gcl])
end
section
/-! THE WALK'S OWN MEMORY. A cell has a number; ι tells what its int places hold, ρ which cell its reference places name; Λ: the cells that there are, and the arrays' lengths. ad, where the cells lie, stays inside. -/
abbrev gV : Type := Int32 ⊕ (Option Nat ⊕ Nat)
abbrev vI (x : Int32) : gV := Sum.inl x
abbrev vO (o : Option Nat) : gV := Sum.inr (Sum.inl o)
abbrev vR (c : Nat) : gV := Sum.inr (Sum.inl (some c))
abbrev vN : gV := Sum.inr (Sum.inl none)
abbrev vB (b : Nat) : gV := Sum.inr (Sum.inr b)
abbrev gIm : Type := Nat → Nat → Int32
abbrev gRm : Type := Nat → Nat → Option Nat
abbrev gLm : Type := List Nat × (Nat → Nat)
def gc (ad : Nat → Nat) (v : gV) : Value := match v with
  | Sum.inl x => .int x
  | Sum.inr (Sum.inl o) => va_rf (o.map ad)
  | Sum.inr (Sum.inr b) => .ref b
/-- one place of one cell -/
def up2 {α : Type} (f : Nat → Nat → α) (c k : Nat) (v : α) : Nat → Nat → α := va_up f c (va_up (f c) k v)
/-- what kind a cell is, by its number: 0 .. 12 the classes of gcl, 13 ints, 14 booleans, 15 .. 17 arrays of Break, House, Rope -/
def shL : List Nat := [11, 13, 8, 13, 3, 16, 13, 7, 17, 9, 17, 13, 13, 13, 1, 15, 10, 13, 13, 13, 13, 13, 5, 13, 13, 13, 13, 13, 13, 13, 13, 4, 13, 13, 14, 13, 18, 18, 18, 18, 12, 13, 13, 13, 13, 13, 13, 13, 13, 13, 14, 14, 13, 13, 13, 13, 13, 13, 14, 13, 13, 13, 13, 13, 13, 13, 13, 13, 13, 13, 13, 13, 13, 13, 13, 13, 14]
def shp (c : Nat) : Nat := if c < 100 then shL.getD c 18 else if c < 200 then 2 else if c < 400 then 6 else if c < 800 then 13 else if c < 900 then 0 else 18
theorem shp_house {i : Nat} (h : i < 100) : shp (100 + i) = 2 := by unfold shp; rw [if_neg (by omega), if_pos (by omega)]
theorem shp_rope {i : Nat} (h : i < 200) : shp (200 + i) = 6 := by unfold shp; rw [if_neg (by omega), if_neg (by omega), if_pos (by omega)]
theorem shp_own {i : Nat} (h : i < 200) : shp (400 + i) = 13 := by unfold shp; rw [if_neg (by omega), if_neg (by omega), if_neg (by omega), if_pos (by omega)]
theorem shp_car {i : Nat} (h : i < 200) : shp (600 + i) = 13 := by unfold shp; rw [if_neg (by omega), if_neg (by omega), if_neg (by omega), if_pos (by omega)]
theorem shp_brk {i : Nat} (h : i < 100) : shp (800 + i) = 0 := by unfold shp; rw [if_neg (by omega), if_neg (by omega), if_neg (by omega), if_neg (by omega), if_pos (by omega)]
def gNf (ci : Nat) : Nat := (gcl.getD ci ("", gf0, 0)).2.2
def gFv (ad : Nat → Nat) (r : Nat → Int32) (q : Nat → Option Nat) (ci k : Nat) : Value := if gIsR ci k then va_rf ((q k).map ad) else .int (r k)
def gFs (ad : Nat → Nat) (r : Nat → Int32) (q : Nat → Option Nat) (ci : Nat) : List Value := (List.range (gNf ci)).map (gFv ad r q ci)
def gE (dA : Nat → ClassId) (ad : Nat → Nat) (ι : gIm) (ρ : gRm) (ln : Nat → Nat) (c : Nat) : va_E :=
  if shp c < 13 then .inr (shp c, gFs ad (ι c) (ρ c) (shp c))
  else if shp c < 15 then .inl (dA (shp c - 13), ln c, .inl (ι c))
  else .inl (dA (shp c - 13), ln c, .inr (.inr (.inr (.inr (fun j => (ρ c j).map ad)))))
def gW (dA : Nat → ClassId) (ad : Nat → Nat) (ι : gIm) (ρ : gRm) (Λ : gLm) : va_W := Λ.1.map (fun c => (ad c, gE dA ad ι ρ Λ.2 c))
/-- what stays: the launch, the classes' numbers and slots, the arrays' classes; which cells may be written -/
abbrev gK : Type := Launch × (va_G × (Nat → ClassId)) × (Nat → Prop)
def gaty : List FieldType := [.int, .boolean, .object "GrassBridge$Break", .object "GrassBridge$House", .object "GrassBridge$Rope"]
def gTys (dA : Nat → ClassId) : List (ClassId × FieldType) := [(dA 0, .int), (dA 1, .boolean), (dA 2, .object "GrassBridge$Break"), (dA 3, .object "GrassBridge$House"), (dA 4, .object "GrassBridge$Rope")]
def gNest : List (String × Nat × MethodName × String) := [("GrassBridge", 22, ⟨"GrassBridge$Houses", "<init>", "()V"⟩, "GrassBridge"), ("GrassBridge", 29, ⟨"GrassBridge$RopeYard", "<init>", "()V"⟩, "GrassBridge"), ("GrassBridge", 36, ⟨"GrassBridge$Span", "<init>", "()V"⟩, "GrassBridge"), ("GrassBridge", 43, ⟨"GrassBridge$Breaks", "<init>", "()V"⟩, "GrassBridge"), ("GrassBridge", 50, ⟨"GrassBridge$Work", "<init>", "()V"⟩, "GrassBridge"), ("GrassBridge", 66, ⟨"GrassBridge$People", "<init>", "()V"⟩, "GrassBridge")]
def gAo : List String := ["GrassBridge$Break", "GrassBridge$House", "GrassBridge$Rope"]
def gKs (K : gK) (s : State) : Prop := va_K K.2.1.1 gcl (gTys K.2.1.2) s ∧ (∀ C ∈ gAo, va_AO C s) ∧ ∀ q ∈ gNest, va_Nw (.methodLinkNest q.1 q.2.1 q.2.2.1 q.2.2.2) s
def gRep (K : gK) (ad : Nat → Nat) (ι : gIm) (ρ : gRm) (Λ : gLm) (H : Heap) : Prop :=
  va_P K.2.1.1 gcl (gW K.2.1.2 ad ι ρ Λ) H ∧ va_D K.2.2 (gW K.2.1.2 ad ι ρ Λ) ∧ ∀ c k d, c ∈ Λ.1 → ρ c k = some d → d ∈ Λ.1
def gLive (Λ : gLm) (v : gV) : Prop := ∀ c, v = vR c → c ∈ Λ.1
def gExt (ad : Nat → Nat) (Λ : gLm) (ad' : Nat → Nat) (Λ' : gLm) : Prop := ∀ c, c ∈ Λ.1 → ad' c = ad c ∧ c ∈ Λ'.1
theorem gExt.rf {ad : Nat → Nat} {Λ : gLm} : gExt ad Λ ad Λ := fun _ h => ⟨rfl, h⟩
theorem gExt.tr {a1 a2 a3 : Nat → Nat} {L1 L2 L3 : gLm} (h : gExt a1 L1 a2 L2) (h2 : gExt a2 L2 a3 L3) : gExt a1 L1 a3 L3 := fun c hc => ⟨((h2 c (h c hc).2).1).trans (h c hc).1, (h2 c (h c hc).2).2⟩
theorem gLive.int {Λ : gLm} {x : Int32} : gLive Λ (vI x) := fun _ h => by cases h
theorem gLive.null {Λ : gLm} : gLive Λ vN := fun _ h => by cases h
theorem gLive.raw {Λ : gLm} {b : Nat} : gLive Λ (vB b) := fun _ h => by cases h
theorem gLive.ref {Λ : gLm} {c : Nat} (h : c ∈ Λ.1) : gLive Λ (vR c) := fun d e => by cases e; exact h
theorem gLive.opt {Λ : gLm} {o : Option Nat} (h : ∀ c, o = some c → c ∈ Λ.1) : gLive Λ (vO o) := fun d e => h d (by cases e; rfl)
theorem gLive.ext {ad ad' : Nat → Nat} {Λ Λ' : gLm} (he : gExt ad Λ ad' Λ') {v : gV} (h : gLive Λ v) : gLive Λ' v := fun c e => (he c (h c e)).2
theorem gc_ext {ad ad' : Nat → Nat} {Λ Λ' : gLm} (he : gExt ad Λ ad' Λ') {v : gV} (h : gLive Λ v) : gc ad' v = gc ad v := by
  rcases v with x | (_ | c) | b
  · rfl
  · rfl
  · show Value.ref _ = Value.ref _
    rw [(he c (h c rfl)).1]
  · rfl
theorem gc_cat (ad : Nat → Nat) (v : gV) : (gc ad v).category = 1 := by
  rcases v with x | (_ | c) | b <;> rfl
theorem gc_cats (ad : Nat → Nat) (l : List gV) : ((l.map (gc ad)).map fun v => v.category).sum = l.length := by
  induction l with
  | nil => rfl
  | cons a l ih => simp only [List.map_cons, List.sum_cons, List.length_cons, gc_cat, ih]; omega
theorem gc_map_ext {ad ad' : Nat → Nat} {Λ Λ' : gLm} (he : gExt ad Λ ad' Λ') {l : List gV} (h : ∀ v ∈ l, gLive Λ v) : l.map (gc ad') = l.map (gc ad) := List.map_congr_left fun v hv => gc_ext he (h v hv)
/-- the locals: place i holds the value at place i of lv -/
def gHas (ad : Nat → Nat) (ls : Array Slot) (n : Nat) (lv : List (Option gV)) : Prop := ls.size = n ∧ lv_wf ls ∧ ∀ (i : Nat) (v : gV), lv[i]? = some (some v) → ls[i]? = some (.val (gc ad v))
def gAs (ad : Nat → Nat) : Nat → List (Option gV) → List (Nat × Value)
  | _, [] => []
  | n, none :: t => gAs ad (n + 1) t
  | n, some v :: t => (n, gc ad v) :: gAs ad (n + 1) t
theorem gAs_mem (ad : Nat → Nat) : ∀ (lv : List (Option gV)) (n i : Nat) (w : Value), (i, w) ∈ gAs ad n lv ↔ ∃ (k : Nat) (v : gV), i = n + k ∧ lv[k]? = some (some v) ∧ w = gc ad v
  | [], n, i, w => by simp [gAs]
  | none :: t, n, i, w => by
    rw [gAs, gAs_mem ad t]
    constructor
    · rintro ⟨k, v, h1, h2, h3⟩
      exact ⟨k + 1, v, by omega, by simpa using h2, h3⟩
    · rintro ⟨k, v, h1, h2, h3⟩
      cases k with
      | zero => simp at h2
      | succ k => exact ⟨k, v, by omega, by simpa using h2, h3⟩
  | some v0 :: t, n, i, w => by
    rw [gAs, List.mem_cons, gAs_mem ad t]
    constructor
    · rintro (h | ⟨k, v, h1, h2, h3⟩)
      · cases h
        exact ⟨0, v0, rfl, rfl, rfl⟩
      · exact ⟨k + 1, v, by omega, by simpa using h2, h3⟩
    · rintro ⟨k, v, h1, h2, h3⟩
      cases k with
      | zero =>
        left
        simp at h2
        subst h2; subst h3; subst h1
        rfl
      | succ k => exact Or.inr ⟨k, v, by omega, by simpa using h2, h3⟩
theorem gHas.lv {ad : Nat → Nat} {ls : Array Slot} {n : Nat} {lv : List (Option gV)} (h : gHas ad ls n lv) : lv_has ls n (gAs ad 0 lv) := by
  refine ⟨h.1, h.2.1, fun q hq => ?_⟩
  obtain ⟨i, w⟩ := q
  obtain ⟨k, v, h1, h2, h3⟩ := (gAs_mem ad lv 0 i w).mp hq
  subst h3
  rw [show i = k by omega]
  exact h.2.2 k v h2
theorem gHas.of {ad : Nat → Nat} {ls : Array Slot} {n : Nat} {lv : List (Option gV)} {l : List (Nat × Value)} (h : lv_has ls n l) (hm : ∀ i v, lv[i]? = some (some v) → (i, gc ad v) ∈ l) : gHas ad ls n lv := ⟨h.1, h.2.1, fun i v hv => h.2.2 (i, gc ad v) (hm i v hv)⟩
theorem gHas.set {ad : Nat → Nat} {ls' : Array Slot} {n i : Nat} {lv : List (Option gV)} {v : gV} (h0 : i < lv.length)
    (h : lv_has ls' n ((i, gc ad v) :: (gAs ad 0 lv).filter (fun q => !(q.1 == i) && !(q.1 + 1 == i && q.2.category == 2)))) : gHas ad ls' n (lv.set i (some v)) := by
  refine gHas.of h fun j w hj => ?_
  by_cases hji : j = i
  · subst hji
    rw [List.getElem?_set_self h0] at hj
    cases hj
    exact List.mem_cons_self
  · rw [List.getElem?_set_ne (fun e => hji e.symm)] at hj
    refine List.mem_cons_of_mem _ (List.mem_filter.mpr ⟨(gAs_mem ad lv 0 j _).mpr ⟨j, w, by omega, hj, rfl⟩, ?_⟩)
    simp [hji, gc_cat]
theorem gHas.ext {ad ad' : Nat → Nat} {Λ Λ' : gLm} (he : gExt ad Λ ad' Λ') {ls : Array Slot} {n : Nat} {lv : List (Option gV)} (hv : ∀ v, some v ∈ lv → gLive Λ v) (h : gHas ad ls n lv) : gHas ad' ls n lv :=
  ⟨h.1, h.2.1, fun i v hi => by rw [gc_ext he (hv v (List.mem_of_getElem? hi))]; exact h.2.2 i v hi⟩
theorem gLvs.set {Λ : gLm} {lv : List (Option gV)} {i : Nat} {v : gV} (hv : gLive Λ v) (h : ∀ w, some w ∈ lv → gLive Λ w) : ∀ w, some w ∈ lv.set i (some v) → gLive Λ w := fun w hw => by
  rcases List.mem_or_eq_of_mem_set hw with h1 | h1
  · exact h w h1
  · cases h1
    exact hv
/-- a method: its name, bytes, how many locals, what it returns -/
abbrev gJ : Type := MethodName × ByteArray × Nat × Option FieldType
def gWs (j : gJ) : List Cond := Cond.code j.1 j.2.1 j.2.2.1 j.2.2.2 :: gT
def gRm0 (dp mc ms : Nat) : Room := { frames := dp, cells := mc, slots := ms, locals := 64 * dp }
/-- the script, where there is one (in the law alone) -/
abbrev gB : Type := Option (Nat × Nat × (Nat → Int32))
def gBs (B : gB) (K : gK) (s : State) : Prop := match B with
  | none => True
  | some b => va_X b.1 b.2.1 b.2.2 s s.heap ∧ b.1 < s.heap.size ∧ ¬ K.2.2 b.1
def gCtx (K : gK) (B : gB) (dp mc ms : Nat) (j : gJ) (p : Program) (R : Room) (s : State) (m : MethodId) (args : Array Value) (meth : Method) (c : Code) : Prop :=
  p.tables.exec = Jvm.exec ∧ c.code = j.2.1 ∧ c.maxLocals = j.2.2.1 ∧ s.vm.findClass j.1.cls = some m.cls ∧ (∀ w ∈ gT, w.before args s = true) ∧ meth.name = j.1.name ∧ (dp ≤ R.frames ∧ 64 * dp ≤ R.locals ∧ mc ≤ R.cells ∧ ms ≤ R.slots) ∧ (∀ q : Nat, s.heap.size ≤ q → K.2.2 q) ∧ gKs K s ∧ gBs B K s
/-- where a method may end -/
def gEnd (j : gJ) (pc : Nat) (r : Option gV) : Prop := match r with
  | none => decode j.2.1 pc = .ok (.return_, 1)
  | some (Sum.inl x) => decode j.2.1 pc = .ok (.ireturn, 1) ∧ (j.2.2.2 = some .int ∨ (j.2.2.2 = some .boolean ∧ (x = 0 ∨ x = 1)))
  | some (Sum.inr _) => decode j.2.1 pc = .ok (.areturn, 1)
abbrev gQ : Type := Option gV → gIm → gRm → gLm → Prop
/-- from here the method comes to its end, with Q of its answer and of the memory: at most mc cells of ms slots are new, dp frames deep -/
def gX (K : gK) (B : gB) (dp mc ms : Nat) (j : gJ) (pc : Nat) (lv : List (Option gV)) (st : List gV) (cl sl : Nat) (ι : gIm) (ρ : gRm) (Λ : gLm) (Q : gQ) : Prop :=
  ∀ (p : Program) (e : Env) (R : Room) (s : State) (m : MethodId) (args : Array Value) (below : List Frame) (meth : Method) (c : Code) (H : Heap) (locs : List Loc) (ls : Array Slot) (ad : Nat → Nat) (Z : State → Prop),
    gCtx K B dp mc ms j p R s m args meth c → gRep K ad ι ρ Λ H → va_S K.2.2 s.heap H locs → gHas ad ls j.2.2.1 lv → (∀ v, some v ∈ lv → gLive Λ v) → (∀ v ∈ st, gLive Λ v) →
    (∀ (pc' : Nat) (ls' : Array Slot) (r : Option gV) (ι' : gIm) (ρ' : gRm) (Λ' : gLm) (ad' : Nat → Nat) (H' : Heap) (locs' : List Loc), Q r ι' ρ' Λ' → gRep K ad' ι' ρ' Λ' H' → gExt ad Λ ad' Λ' → (∀ v, r = some v → gLive Λ' v) → va_S K.2.2 s.heap H' locs' → gEnd j pc' r →
      W p K.1 e R s m args below meth c H' locs' mc ms Z (F0 m pc' ls' (r.toList.map (gc ad')))) →
    W p K.1 e R s m args below meth c H locs cl sl Z (F0 m pc ls (st.map (gc ad)))
/-- what a method's end says -/
def gPost (K : gK) (ad : Nat → Nat) (Λ : gLm) (Q : gQ) : Array Value → State → Outcome → State → Prop := fun _ st oc t =>
  (∃ (r : Option gV) (ι' : gIm) (ρ' : gRm) (Λ' : gLm) (ad' : Nat → Nat), oc = .returned (r.map (gc ad')) ∧ Q r ι' ρ' Λ' ∧ gRep K ad' ι' ρ' Λ' t.heap ∧ gExt ad Λ ad' Λ' ∧ ∀ v, r = some v → gLive Λ' v) ∧ va_F K.2.2 st t
def gPre (K : gK) (ad : Nat → Nat) (ι : gIm) (ρ : gRm) (Λ : gLm) (U : State) : Prop := gKs K U ∧ gRep K ad ι ρ Λ U.heap ∧ ∀ q : Nat, U.heap.size ≤ q → K.2.2 q
/-- a method's contract -/
def gC (K : gK) (dp mc ms : Nat) (j : gJ) (av : List gV) (ι : gIm) (ρ : gRm) (Λ : gLm) (Q : gQ) : Prop :=
  ∀ ad : Nat → Nat, (∀ v ∈ av, gLive Λ v) → Met K.1 j.1 (gWs j) (gRm0 dp mc ms) (va_Pc (av.map (gc ad)) (gPre K ad ι ρ Λ)) (gPost K ad Λ Q) mc ms K.2.2
end
section
/-! one row an instruction -/
theorem gW_get {dA : Nat → ClassId} {ad : Nat → Nat} {ι : gIm} {ρ : gRm} {Λ : gLm} {c : Nat} (h : c ∈ Λ.1) : ∃ q0 : Nat, (gW dA ad ι ρ Λ)[q0]? = some (ad c, gE dA ad ι ρ Λ.2 c) :=
  List.getElem?_of_mem (List.mem_map.mpr ⟨c, h, rfl⟩)
theorem gW_set {dA : Nat → ClassId} {ad : Nat → Nat} {ι ι' : gIm} {ρ ρ' : gRm} {Λ : gLm} {A : Nat → Prop} {c q0 : Nat} {e : va_E} (hD : va_D A (gW dA ad ι ρ Λ)) (hc : c ∈ Λ.1) (hq : (gW dA ad ι ρ Λ)[q0]? = some (ad c, gE dA ad ι ρ Λ.2 c))
    (h1 : gE dA ad ι' ρ' Λ.2 c = e) (h2 : ∀ d, d ≠ c → gE dA ad ι' ρ' Λ.2 d = gE dA ad ι ρ Λ.2 d) : (gW dA ad ι ρ Λ).set q0 (ad c, e) = gW dA ad ι' ρ' Λ := by
  obtain ⟨i, hi⟩ := List.getElem?_of_mem hc
  have hi2 : (gW dA ad ι ρ Λ)[i]? = some (ad c, gE dA ad ι ρ Λ.2 c) := by simp [gW, hi]
  have e1 : q0 = i := hD.1 _ _ _ _ hq hi2 rfl
  subst e1
  apply List.ext_getElem?
  intro k
  by_cases hk : k = q0
  · subst hk
    have hl : k < (gW dA ad ι ρ Λ).length := (List.getElem?_eq_some_iff.mp hq).1
    rw [List.getElem?_set_self hl]
    simp [gW, hi, h1]
  · rw [List.getElem?_set_ne (fun z => hk z.symm)]
    cases hd : Λ.1[k]? with
    | none => simp [gW, hd]
    | some d =>
      have hdc : d ≠ c := by
        rintro rfl
        have hk2 : (gW dA ad ι ρ Λ)[k]? = some (ad d, gE dA ad ι ρ Λ.2 d) := by simp [gW, hd]
        exact hk (hD.1 _ _ _ _ hk2 hq rfl)
      simp [gW, hd, h2 d hdc]
theorem up2_row {α : Type} (f : Nat → Nat → α) (c k : Nat) (v : α) : up2 f c k v c = va_up (f c) k v := by simp [up2, va_up]
theorem up2_ne {α : Type} (f : Nat → Nat → α) {c d : Nat} (k : Nat) (v : α) (h : d ≠ c) : up2 f c k v d = f d := by simp [up2, va_up, h]
theorem gE_obj {dA : Nat → ClassId} {ad : Nat → Nat} {ι : gIm} {ρ : gRm} {ln : Nat → Nat} {c ci : Nat} (h : shp c = ci) (hci : ci < 13) : gE dA ad ι ρ ln c = .inr (ci, gFs ad (ι c) (ρ c) ci) := by
  subst h; unfold gE; rw [if_pos hci]
theorem gE_arr {dA : Nat → ClassId} {ad : Nat → Nat} {ι : gIm} {ρ : gRm} {ln : Nat → Nat} {c t : Nat} (h : shp c = 13 + t) (ht : t < 2) : gE dA ad ι ρ ln c = .inl (dA t, ln c, .inl (ι c)) := by
  unfold gE; rw [if_neg (by omega), if_pos (by omega), h, Nat.add_sub_cancel_left]
theorem gE_ref {dA : Nat → ClassId} {ad : Nat → Nat} {ι : gIm} {ρ : gRm} {ln : Nat → Nat} {c t : Nat} (h : shp c = 13 + t) (ht : 2 ≤ t) : gE dA ad ι ρ ln c = .inl (dA t, ln c, .inr (.inr (.inr (.inr (fun j => (ρ c j).map ad))))) := by
  unfold gE; rw [if_neg (by omega), if_neg (by omega), h, Nat.add_sub_cancel_left]
theorem gE_same {dA : Nat → ClassId} {ad : Nat → Nat} {ι ι' : gIm} {ρ ρ' : gRm} {ln : Nat → Nat} {d : Nat} (h1 : ι' d = ι d) (h2 : ρ' d = ρ d) : gE dA ad ι' ρ' ln d = gE dA ad ι ρ ln d := by unfold gE; rw [h1, h2]
/-- a field: own class, place in its pool, class, slot -/
def gFld (own : String) (idx ci k : Nat) : Prop := ∃ q : vw_C, gcl[ci]? = some q ∧ k < q.2.2 ∧ Cond.fieldLink own idx q.1 (q.2.1 k).2.1 (q.2.1 k).2.2.1 ∈ gT ∧ (q.2.1 k).2.2.2 = false
def gFldF (own : String) (idx ci k : Nat) : Prop := ∃ q : vw_C, gcl[ci]? = some q ∧ k < q.2.2 ∧ Cond.fieldLink own idx q.1 (q.2.1 k).2.1 (q.2.1 k).2.2.1 ∈ gT ∧ (q.2.1 k).2.2.2 = true
theorem gNf_of {ci : Nat} {q : vw_C} (h : gcl[ci]? = some q) : gNf ci = q.2.2 := by unfold gNf; rw [List.getD_eq_getElem?_getD, h]; rfl
theorem gcl_lt {ci : Nat} {q : vw_C} (h : gcl[ci]? = some q) : ci < 13 := (List.getElem?_eq_some_iff.mp h).1
theorem gFs_at {ad : Nat → Nat} {r : Nat → Int32} {q : Nat → Option Nat} {ci k : Nat} (h : k < gNf ci) : (gFs ad r q ci)[k]? = some (gFv ad r q ci k) := by
  simp [gFs, h]
theorem gFs_set {ad : Nat → Nat} {r r' : Nat → Int32} {q q' : Nat → Option Nat} {ci k : Nat} (h1 : ∀ j, j ≠ k → gFv ad r' q' ci j = gFv ad r q ci j) : (gFs ad r q ci).set k (gFv ad r' q' ci k) = gFs ad r' q' ci := by
  apply List.ext_getElem?
  intro i
  by_cases hi : i = k
  · subst hi
    by_cases hl : i < gNf ci
    · rw [List.getElem?_set_self (by simpa [gFs] using hl), gFs_at hl]
    · rw [List.getElem?_eq_none (by simp [gFs]; omega), List.getElem?_eq_none (by simp [gFs]; omega)]
  · rw [List.getElem?_set_ne (fun z => hi z.symm)]
    by_cases hl : i < gNf ci
    · rw [gFs_at hl, gFs_at hl, h1 i hi]
    · rw [List.getElem?_eq_none (by simp [gFs]; omega), List.getElem?_eq_none (by simp [gFs]; omega)]
theorem gFs_len {ad : Nat → Nat} {r : Nat → Int32} {q : Nat → Option Nat} {ci : Nat} : (gFs ad r q ci).length = gNf ci := by simp [gFs]
section RULES
variable {K : gK} {B : gB} {dp mc ms : Nat} {j : gJ} {pc : Nat} {lv : List (Option gV)} {st : List gV} {cl sl : Nat} {ι : gIm} {ρ : gRm} {Λ : gLm} {Q : gQ}
theorem x_iconst {n : Int} (v : Int32) (hd : decode j.2.1 pc = .ok (.iconst n, 1)) (hv : Int32.ofInt n = v) (k : gX K B dp mc ms j (pc + 1) lv (vI v :: st) cl sl ι ρ Λ Q) : gX K B dp mc ms j pc lv st cl sl ι ρ Λ Q := by
  intro p e R s m args below meth c H locs ls ad Z C hR hS hl hv1 hv2 hZ
  refine lv_iconst C.1 C.2.1 hd hv ?_
  exact k p e R s m args below meth c H locs ls ad Z C hR hS hl hv1 (List.forall_mem_cons.mpr ⟨gLive.int, hv2⟩) hZ
theorem x_bipush {n : Int} (v : Int32) (hd : decode j.2.1 pc = .ok (.bipush n, 2)) (hv : (Int8.ofInt n).toInt32 = v) (k : gX K B dp mc ms j (pc + 2) lv (vI v :: st) cl sl ι ρ Λ Q) : gX K B dp mc ms j pc lv st cl sl ι ρ Λ Q := by
  intro p e R s m args below meth c H locs ls ad Z C hR hS hl hv1 hv2 hZ
  refine lv_bipush C.1 C.2.1 hd hv ?_
  exact k p e R s m args below meth c H locs ls ad Z C hR hS hl hv1 (List.forall_mem_cons.mpr ⟨gLive.int, hv2⟩) hZ
theorem x_sipush {n : Int} (v : Int32) (hd : decode j.2.1 pc = .ok (.sipush n, 3)) (hv : (Int16.ofInt n).toInt32 = v) (k : gX K B dp mc ms j (pc + 3) lv (vI v :: st) cl sl ι ρ Λ Q) : gX K B dp mc ms j pc lv st cl sl ι ρ Λ Q := by
  intro p e R s m args below meth c H locs ls ad Z C hR hS hl hv1 hv2 hZ
  refine lv_sipush C.1 C.2.1 hd hv ?_
  exact k p e R s m args below meth c H locs ls ad Z C hR hS hl hv1 (List.forall_mem_cons.mpr ⟨gLive.int, hv2⟩) hZ
theorem x_ldc {idx : Nat} {v : Int32} (hd : decode j.2.1 pc = .ok (.ldc idx, 2)) (hw : Cond.constant j.1.cls idx v ∈ gT) (k : gX K B dp mc ms j (pc + 2) lv (vI v :: st) cl sl ι ρ Λ Q) : gX K B dp mc ms j pc lv st cl sl ι ρ Λ Q := by
  intro p e R s m args below meth c H locs ls ad Z C hR hS hl hv1 hv2 hZ
  obtain ⟨hx, hb, hml, hown, hts, -⟩ := id C
  refine lv_ldc hx hb hown (hts _ hw) hd ?_
  exact k p e R s m args below meth c H locs ls ad Z C hR hS hl hv1 (List.forall_mem_cons.mpr ⟨gLive.int, hv2⟩) hZ
theorem x_ldcw {idx : Nat} {v : Int32} (hd : decode j.2.1 pc = .ok (.ldc_w idx, 3)) (hw : Cond.constant j.1.cls idx v ∈ gT) (k : gX K B dp mc ms j (pc + 3) lv (vI v :: st) cl sl ι ρ Λ Q) : gX K B dp mc ms j pc lv st cl sl ι ρ Λ Q := by
  intro p e R s m args below meth c H locs ls ad Z C hR hS hl hv1 hv2 hZ
  obtain ⟨hx, hb, hml, hown, hts, -⟩ := id C
  refine lv_ldcw hx hb hown (hts _ hw) hd ?_
  exact k p e R s m args below meth c H locs ls ad Z C hR hS hl hv1 (List.forall_mem_cons.mpr ⟨gLive.int, hv2⟩) hZ
theorem x_iload_n {n : Fin 4} {x : Int32} (i : Nat) (hd : decode j.2.1 pc = .ok (.iload_n n, 1)) (hi : (n : Nat) = i) (hx : lv[i]? = some (some (vI x))) (k : gX K B dp mc ms j (pc + 1) lv (vI x :: st) cl sl ι ρ Λ Q) : gX K B dp mc ms j pc lv st cl sl ι ρ Λ Q := by
  intro p e R s m args below meth c H locs ls ad Z C hR hS hl hv1 hv2 hZ
  refine lv_iload_n C.1 C.2.1 hd hi (hl.2.2 i _ hx) ?_
  exact k p e R s m args below meth c H locs ls ad Z C hR hS hl hv1 (List.forall_mem_cons.mpr ⟨gLive.int, hv2⟩) hZ
theorem x_iload {i : Nat} {x : Int32} (hd : decode j.2.1 pc = .ok (.iload i, 2)) (hx : lv[i]? = some (some (vI x))) (k : gX K B dp mc ms j (pc + 2) lv (vI x :: st) cl sl ι ρ Λ Q) : gX K B dp mc ms j pc lv st cl sl ι ρ Λ Q := by
  intro p e R s m args below meth c H locs ls ad Z C hR hS hl hv1 hv2 hZ
  refine lv_iload C.1 C.2.1 hd (hl.2.2 i _ hx) ?_
  exact k p e R s m args below meth c H locs ls ad Z C hR hS hl hv1 (List.forall_mem_cons.mpr ⟨gLive.int, hv2⟩) hZ
theorem x_aload_n {n : Fin 4} {r : Option Nat ⊕ Nat} (i : Nat) (hd : decode j.2.1 pc = .ok (.aload_n n, 1)) (hi : (n : Nat) = i) (hx : lv[i]? = some (some (Sum.inr r))) (k : gX K B dp mc ms j (pc + 1) lv (Sum.inr r :: st) cl sl ι ρ Λ Q) : gX K B dp mc ms j pc lv st cl sl ι ρ Λ Q := by
  intro p e R s m args below meth c H locs ls ad Z C hR hS hl hv1 hv2 hZ
  have k2 := k p e R s m args below meth c H locs ls ad Z C hR hS hl hv1 (List.forall_mem_cons.mpr ⟨hv1 _ (List.mem_of_getElem? hx), hv2⟩) hZ
  have h2 := hl.2.2 i _ hx
  rcases r with (_ | a) | b
  · exact lv_aload_nN C.1 C.2.1 hd hi h2 k2
  · exact lv_aload_n C.1 C.2.1 hd hi h2 k2
  · exact lv_aload_n C.1 C.2.1 hd hi h2 k2
theorem x_aload {i : Nat} {r : Option Nat ⊕ Nat} (hd : decode j.2.1 pc = .ok (.aload i, 2)) (hx : lv[i]? = some (some (Sum.inr r))) (k : gX K B dp mc ms j (pc + 2) lv (Sum.inr r :: st) cl sl ι ρ Λ Q) : gX K B dp mc ms j pc lv st cl sl ι ρ Λ Q := by
  intro p e R s m args below meth c H locs ls ad Z C hR hS hl hv1 hv2 hZ
  have k2 := k p e R s m args below meth c H locs ls ad Z C hR hS hl hv1 (List.forall_mem_cons.mpr ⟨hv1 _ (List.mem_of_getElem? hx), hv2⟩) hZ
  have h2 := hl.2.2 i _ hx
  rcases r with (_ | a) | b
  · exact lv_aloadN C.1 C.2.1 hd h2 k2
  · exact lv_aload C.1 C.2.1 hd h2 k2
  · exact lv_aload C.1 C.2.1 hd h2 k2
theorem x_istore_n {n : Fin 4} {x : Int32} (i : Nat) {lv' : List (Option gV)} (hd : decode j.2.1 pc = .ok (.istore_n n, 1)) (hi : (n : Nat) = i) (hn : i < lv.length ∧ i < j.2.2.1) (hl' : lv.set i (some (vI x)) = lv') (k : gX K B dp mc ms j (pc + 1) lv' st cl sl ι ρ Λ Q) : gX K B dp mc ms j pc lv (vI x :: st) cl sl ι ρ Λ Q := by
  intro p e R s m args below meth c H locs ls ad Z C hR hS hl hv1 hv2 hZ
  subst hl'
  obtain ⟨h1, h2⟩ := List.forall_mem_cons.mp hv2
  refine lv_istore_n C.1 C.2.1 hd hi hl.lv hn.2 rfl fun ls' hl2 => ?_
  exact k p e R s m args below meth c H locs ls' ad Z C hR hS (gHas.set hn.1 hl2) (gLvs.set h1 hv1) h2 hZ
theorem x_istore {x : Int32} {i : Nat} {lv' : List (Option gV)} (hd : decode j.2.1 pc = .ok (.istore i, 2)) (hn : i < lv.length ∧ i < j.2.2.1) (hl' : lv.set i (some (vI x)) = lv') (k : gX K B dp mc ms j (pc + 2) lv' st cl sl ι ρ Λ Q) : gX K B dp mc ms j pc lv (vI x :: st) cl sl ι ρ Λ Q := by
  intro p e R s m args below meth c H locs ls ad Z C hR hS hl hv1 hv2 hZ
  subst hl'
  obtain ⟨h1, h2⟩ := List.forall_mem_cons.mp hv2
  refine lv_istore C.1 C.2.1 hd hl.lv hn.2 rfl fun ls' hl2 => ?_
  exact k p e R s m args below meth c H locs ls' ad Z C hR hS (gHas.set hn.1 hl2) (gLvs.set h1 hv1) h2 hZ
theorem x_astore_n {n : Fin 4} {r : Option Nat ⊕ Nat} (i : Nat) {lv' : List (Option gV)} (hd : decode j.2.1 pc = .ok (.astore_n n, 1)) (hi : (n : Nat) = i) (hn : i < lv.length ∧ i < j.2.2.1) (hl' : lv.set i (some (Sum.inr r)) = lv') (k : gX K B dp mc ms j (pc + 1) lv' st cl sl ι ρ Λ Q) : gX K B dp mc ms j pc lv (Sum.inr r :: st) cl sl ι ρ Λ Q := by
  intro p e R s m args below meth c H locs ls ad Z C hR hS hl hv1 hv2 hZ
  subst hl'
  obtain ⟨h1, h2⟩ := List.forall_mem_cons.mp hv2
  rcases r with (_ | a) | b
  · refine lv_astore_nN C.1 C.2.1 hd hi hl.lv hn.2 rfl fun ls' hl2 => ?_
    exact k p e R s m args below meth c H locs ls' ad Z C hR hS (gHas.set (v := vN) hn.1 hl2) (gLvs.set h1 hv1) h2 hZ
  · refine lv_astore_n C.1 C.2.1 hd hi hl.lv hn.2 rfl fun ls' hl2 => ?_
    exact k p e R s m args below meth c H locs ls' ad Z C hR hS (gHas.set (v := vR a) hn.1 hl2) (gLvs.set h1 hv1) h2 hZ
  · refine lv_astore_n C.1 C.2.1 hd hi hl.lv hn.2 rfl fun ls' hl2 => ?_
    exact k p e R s m args below meth c H locs ls' ad Z C hR hS (gHas.set (v := vB b) hn.1 hl2) (gLvs.set h1 hv1) h2 hZ
theorem x_astore {r : Option Nat ⊕ Nat} {i : Nat} {lv' : List (Option gV)} (hd : decode j.2.1 pc = .ok (.astore i, 2)) (hn : i < lv.length ∧ i < j.2.2.1) (hl' : lv.set i (some (Sum.inr r)) = lv') (k : gX K B dp mc ms j (pc + 2) lv' st cl sl ι ρ Λ Q) : gX K B dp mc ms j pc lv (Sum.inr r :: st) cl sl ι ρ Λ Q := by
  intro p e R s m args below meth c H locs ls ad Z C hR hS hl hv1 hv2 hZ
  subst hl'
  obtain ⟨h1, h2⟩ := List.forall_mem_cons.mp hv2
  rcases r with (_ | a) | b
  · refine lv_astoreN C.1 C.2.1 hd hl.lv hn.2 rfl fun ls' hl2 => ?_
    exact k p e R s m args below meth c H locs ls' ad Z C hR hS (gHas.set (v := vN) hn.1 hl2) (gLvs.set h1 hv1) h2 hZ
  · refine lv_astore C.1 C.2.1 hd hl.lv hn.2 rfl fun ls' hl2 => ?_
    exact k p e R s m args below meth c H locs ls' ad Z C hR hS (gHas.set (v := vR a) hn.1 hl2) (gLvs.set h1 hv1) h2 hZ
  · refine lv_astore C.1 C.2.1 hd hl.lv hn.2 rfl fun ls' hl2 => ?_
    exact k p e R s m args below meth c H locs ls' ad Z C hR hS (gHas.set (v := vB b) hn.1 hl2) (gLvs.set h1 hv1) h2 hZ
theorem x_iinc {x : Int32} {n : Int} {i : Nat} {lv' : List (Option gV)} (v : Int32) (hd : decode j.2.1 pc = .ok (.iinc i n, 3)) (hx : lv[i]? = some (some (vI x))) (hv : x + Int32.ofInt n = v) (hn : i < j.2.2.1) (hl' : lv.set i (some (vI v)) = lv') (k : gX K B dp mc ms j (pc + 3) lv' st cl sl ι ρ Λ Q) : gX K B dp mc ms j pc lv st cl sl ι ρ Λ Q := by
  intro p e R s m args below meth c H locs ls ad Z C hR hS hl hv1 hv2 hZ
  subst hl'
  obtain ⟨q, hq⟩ := List.getElem?_of_mem ((gAs_mem ad lv 0 i (gc ad (vI x))).mpr ⟨i, _, by omega, hx, rfl⟩)
  refine lv_iinc (v := v) C.1 C.2.1 hd hl.lv hq hv hn rfl fun ls' hl2 => ?_
  exact k p e R s m args below meth c H locs ls' ad Z C hR hS (gHas.set (v := vI v) (List.getElem?_eq_some_iff.mp hx).1 hl2) (gLvs.set gLive.int hv1) hv2 hZ
theorem x_iadd {x y : Int32} (hd : decode j.2.1 pc = .ok (.iadd, 1)) (k : gX K B dp mc ms j (pc + 1) lv (vI (x + y) :: st) cl sl ι ρ Λ Q) : gX K B dp mc ms j pc lv (vI y :: vI x :: st) cl sl ι ρ Λ Q := by
  intro p e R s m args below meth c H locs ls ad Z C hR hS hl hv1 hv2 hZ
  refine lv_iadd C.1 C.2.1 hd ?_
  exact k p e R s m args below meth c H locs ls ad Z C hR hS hl hv1 (List.forall_mem_cons.mpr ⟨gLive.int, (List.forall_mem_cons.mp (List.forall_mem_cons.mp hv2).2).2⟩) hZ
theorem x_isub {x y : Int32} (hd : decode j.2.1 pc = .ok (.isub, 1)) (k : gX K B dp mc ms j (pc + 1) lv (vI (x - y) :: st) cl sl ι ρ Λ Q) : gX K B dp mc ms j pc lv (vI y :: vI x :: st) cl sl ι ρ Λ Q := by
  intro p e R s m args below meth c H locs ls ad Z C hR hS hl hv1 hv2 hZ
  refine lv_isub C.1 C.2.1 hd ?_
  exact k p e R s m args below meth c H locs ls ad Z C hR hS hl hv1 (List.forall_mem_cons.mpr ⟨gLive.int, (List.forall_mem_cons.mp (List.forall_mem_cons.mp hv2).2).2⟩) hZ
theorem x_imul {x y : Int32} (hd : decode j.2.1 pc = .ok (.imul, 1)) (k : gX K B dp mc ms j (pc + 1) lv (vI (x * y) :: st) cl sl ι ρ Λ Q) : gX K B dp mc ms j pc lv (vI y :: vI x :: st) cl sl ι ρ Λ Q := by
  intro p e R s m args below meth c H locs ls ad Z C hR hS hl hv1 hv2 hZ
  refine lv_imul C.1 C.2.1 hd ?_
  exact k p e R s m args below meth c H locs ls ad Z C hR hS hl hv1 (List.forall_mem_cons.mpr ⟨gLive.int, (List.forall_mem_cons.mp (List.forall_mem_cons.mp hv2).2).2⟩) hZ
theorem x_iand {x y : Int32} (hd : decode j.2.1 pc = .ok (.iand, 1)) (k : gX K B dp mc ms j (pc + 1) lv (vI (x &&& y) :: st) cl sl ι ρ Λ Q) : gX K B dp mc ms j pc lv (vI y :: vI x :: st) cl sl ι ρ Λ Q := by
  intro p e R s m args below meth c H locs ls ad Z C hR hS hl hv1 hv2 hZ
  refine lv_iand C.1 C.2.1 hd ?_
  exact k p e R s m args below meth c H locs ls ad Z C hR hS hl hv1 (List.forall_mem_cons.mpr ⟨gLive.int, (List.forall_mem_cons.mp (List.forall_mem_cons.mp hv2).2).2⟩) hZ
theorem x_ior {x y : Int32} (hd : decode j.2.1 pc = .ok (.ior, 1)) (k : gX K B dp mc ms j (pc + 1) lv (vI (x ||| y) :: st) cl sl ι ρ Λ Q) : gX K B dp mc ms j pc lv (vI y :: vI x :: st) cl sl ι ρ Λ Q := by
  intro p e R s m args below meth c H locs ls ad Z C hR hS hl hv1 hv2 hZ
  refine lv_ior C.1 C.2.1 hd ?_
  exact k p e R s m args below meth c H locs ls ad Z C hR hS hl hv1 (List.forall_mem_cons.mpr ⟨gLive.int, (List.forall_mem_cons.mp (List.forall_mem_cons.mp hv2).2).2⟩) hZ
theorem x_ixor {x y : Int32} (hd : decode j.2.1 pc = .ok (.ixor, 1)) (k : gX K B dp mc ms j (pc + 1) lv (vI (x ^^^ y) :: st) cl sl ι ρ Λ Q) : gX K B dp mc ms j pc lv (vI y :: vI x :: st) cl sl ι ρ Λ Q := by
  intro p e R s m args below meth c H locs ls ad Z C hR hS hl hv1 hv2 hZ
  refine lv_ixor C.1 C.2.1 hd ?_
  exact k p e R s m args below meth c H locs ls ad Z C hR hS hl hv1 (List.forall_mem_cons.mpr ⟨gLive.int, (List.forall_mem_cons.mp (List.forall_mem_cons.mp hv2).2).2⟩) hZ
theorem x_idiv {x y : Int32} (hd : decode j.2.1 pc = .ok (.idiv, 1)) (hne : ¬ y = 0) (k : gX K B dp mc ms j (pc + 1) lv (vI (x / y) :: st) cl sl ι ρ Λ Q) : gX K B dp mc ms j pc lv (vI y :: vI x :: st) cl sl ι ρ Λ Q := by
  intro p e R s m args below meth c H locs ls ad Z C hR hS hl hv1 hv2 hZ
  refine lv_idiv C.1 C.2.1 hd hne ?_
  exact k p e R s m args below meth c H locs ls ad Z C hR hS hl hv1 (List.forall_mem_cons.mpr ⟨gLive.int, (List.forall_mem_cons.mp (List.forall_mem_cons.mp hv2).2).2⟩) hZ
theorem x_irem {x y : Int32} (hd : decode j.2.1 pc = .ok (.irem, 1)) (hne : ¬ y = 0) (k : gX K B dp mc ms j (pc + 1) lv (vI (x - x / y * y) :: st) cl sl ι ρ Λ Q) : gX K B dp mc ms j pc lv (vI y :: vI x :: st) cl sl ι ρ Λ Q := by
  intro p e R s m args below meth c H locs ls ad Z C hR hS hl hv1 hv2 hZ
  refine lv_irem C.1 C.2.1 hd hne ?_
  exact k p e R s m args below meth c H locs ls ad Z C hR hS hl hv1 (List.forall_mem_cons.mpr ⟨gLive.int, (List.forall_mem_cons.mp (List.forall_mem_cons.mp hv2).2).2⟩) hZ
theorem x_ishl {x y : Int32} (hd : decode j.2.1 pc = .ok (.ishl, 1)) (k : gX K B dp mc ms j (pc + 1) lv (vI (x <<< (y &&& 31)) :: st) cl sl ι ρ Λ Q) : gX K B dp mc ms j pc lv (vI y :: vI x :: st) cl sl ι ρ Λ Q := by
  intro p e R s m args below meth c H locs ls ad Z C hR hS hl hv1 hv2 hZ
  refine lv_ishl C.1 C.2.1 hd ?_
  exact k p e R s m args below meth c H locs ls ad Z C hR hS hl hv1 (List.forall_mem_cons.mpr ⟨gLive.int, (List.forall_mem_cons.mp (List.forall_mem_cons.mp hv2).2).2⟩) hZ
theorem x_ishr {x y : Int32} (hd : decode j.2.1 pc = .ok (.ishr, 1)) (k : gX K B dp mc ms j (pc + 1) lv (vI (x >>> (y &&& 31)) :: st) cl sl ι ρ Λ Q) : gX K B dp mc ms j pc lv (vI y :: vI x :: st) cl sl ι ρ Λ Q := by
  intro p e R s m args below meth c H locs ls ad Z C hR hS hl hv1 hv2 hZ
  refine lv_ishr C.1 C.2.1 hd ?_
  exact k p e R s m args below meth c H locs ls ad Z C hR hS hl hv1 (List.forall_mem_cons.mpr ⟨gLive.int, (List.forall_mem_cons.mp (List.forall_mem_cons.mp hv2).2).2⟩) hZ
theorem x_iushr {x y : Int32} (v : Int32) (hd : decode j.2.1 pc = .ok (.iushr, 1)) (hv : (x.toUInt32 >>> (y.toUInt32 &&& Int32.toUInt32 31)).toInt32 = v) (k : gX K B dp mc ms j (pc + 1) lv (vI v :: st) cl sl ι ρ Λ Q) : gX K B dp mc ms j pc lv (vI y :: vI x :: st) cl sl ι ρ Λ Q := by
  intro p e R s m args below meth c H locs ls ad Z C hR hS hl hv1 hv2 hZ
  refine lv_iushr C.1 C.2.1 hd hv ?_
  exact k p e R s m args below meth c H locs ls ad Z C hR hS hl hv1 (List.forall_mem_cons.mpr ⟨gLive.int, (List.forall_mem_cons.mp (List.forall_mem_cons.mp hv2).2).2⟩) hZ
theorem x_ineg {x : Int32} (hd : decode j.2.1 pc = .ok (.ineg, 1)) (k : gX K B dp mc ms j (pc + 1) lv (vI (-x) :: st) cl sl ι ρ Λ Q) : gX K B dp mc ms j pc lv (vI x :: st) cl sl ι ρ Λ Q := by
  intro p e R s m args below meth c H locs ls ad Z C hR hS hl hv1 hv2 hZ
  refine lv_ineg C.1 C.2.1 hd ?_
  exact k p e R s m args below meth c H locs ls ad Z C hR hS hl hv1 (List.forall_mem_cons.mpr ⟨gLive.int, (List.forall_mem_cons.mp hv2).2⟩) hZ
theorem x_dup {v : gV} (hd : decode j.2.1 pc = .ok (.dup, 1)) (k : gX K B dp mc ms j (pc + 1) lv (v :: v :: st) cl sl ι ρ Λ Q) : gX K B dp mc ms j pc lv (v :: st) cl sl ι ρ Λ Q := by
  intro p e R s m args below meth c H locs ls ad Z C hR hS hl hv1 hv2 hZ
  refine lv_dup C.1 C.2.1 hd (gc_cat ad v) ?_
  exact k p e R s m args below meth c H locs ls ad Z C hR hS hl hv1 (List.forall_mem_cons.mpr ⟨(List.forall_mem_cons.mp hv2).1, hv2⟩) hZ
theorem x_pop {v : gV} (hd : decode j.2.1 pc = .ok (.pop, 1)) (k : gX K B dp mc ms j (pc + 1) lv st cl sl ι ρ Λ Q) : gX K B dp mc ms j pc lv (v :: st) cl sl ι ρ Λ Q := by
  intro p e R s m args below meth c H locs ls ad Z C hR hS hl hv1 hv2 hZ
  refine lv_pop C.1 C.2.1 hd (gc_cat ad v) ?_
  exact k p e R s m args below meth c H locs ls ad Z C hR hS hl hv1 (List.forall_mem_cons.mp hv2).2 hZ
theorem x_dup_x1 {v w : gV} (hd : decode j.2.1 pc = .ok (.dup_x1, 1)) (k : gX K B dp mc ms j (pc + 1) lv (v :: w :: v :: st) cl sl ι ρ Λ Q) : gX K B dp mc ms j pc lv (v :: w :: st) cl sl ι ρ Λ Q := by
  intro p e R s m args below meth c H locs ls ad Z C hR hS hl hv1 hv2 hZ
  refine lv_dup_x1 C.1 C.2.1 hd (gc_cat ad v) (gc_cat ad w) ?_
  obtain ⟨h1, h2⟩ := List.forall_mem_cons.mp hv2
  obtain ⟨h2, h3⟩ := List.forall_mem_cons.mp h2
  exact k p e R s m args below meth c H locs ls ad Z C hR hS hl hv1 (List.forall_mem_cons.mpr ⟨h1, List.forall_mem_cons.mpr ⟨h2, List.forall_mem_cons.mpr ⟨h1, h3⟩⟩⟩) hZ
theorem x_dup2 {v w : gV} (hd : decode j.2.1 pc = .ok (.dup2, 1)) (k : gX K B dp mc ms j (pc + 1) lv (v :: w :: v :: w :: st) cl sl ι ρ Λ Q) : gX K B dp mc ms j pc lv (v :: w :: st) cl sl ι ρ Λ Q := by
  intro p e R s m args below meth c H locs ls ad Z C hR hS hl hv1 hv2 hZ
  refine lv_dup2_11 C.1 C.2.1 hd (gc_cat ad v) (gc_cat ad w) ?_
  obtain ⟨h1, h2⟩ := List.forall_mem_cons.mp hv2
  obtain ⟨h2, h3⟩ := List.forall_mem_cons.mp h2
  exact k p e R s m args below meth c H locs ls ad Z C hR hS hl hv1 (List.forall_mem_cons.mpr ⟨h1, List.forall_mem_cons.mpr ⟨h2, hv2⟩⟩) hZ
theorem x_goto {off : Int} (tgt : Nat) (hd : decode j.2.1 pc = .ok (.goto off, 3)) (ht : (pc : Int) + off = (tgt : Int)) (k : gX K B dp mc ms j tgt lv st cl sl ι ρ Λ Q) : gX K B dp mc ms j pc lv st cl sl ι ρ Λ Q := by
  intro p e R s m args below meth c H locs ls ad Z C hR hS hl hv1 hv2 hZ
  exact lv_goto C.1 C.2.1 hd ht (k p e R s m args below meth c H locs ls ad Z C hR hS hl hv1 hv2 hZ)
theorem x_if_eq {x : Int32} {off : Int} (tgt : Nat) (hd : decode j.2.1 pc = .ok (.ifCond .eq off, 3)) (ht : (pc : Int) + off = (tgt : Int)) (kt : x = 0 → gX K B dp mc ms j tgt lv st cl sl ι ρ Λ Q) (kf : ¬ x = 0 → gX K B dp mc ms j (pc + 3) lv st cl sl ι ρ Λ Q) : gX K B dp mc ms j pc lv (vI x :: st) cl sl ι ρ Λ Q := by
  intro p e R s m args below meth c H locs ls ad Z C hR hS hl hv1 hv2 hZ
  have h2 := (List.forall_mem_cons.mp hv2).2
  exact lv_if_eq C.1 C.2.1 hd ht (fun h => kt h p e R s m args below meth c H locs ls ad Z C hR hS hl hv1 h2 hZ) (fun h => kf h p e R s m args below meth c H locs ls ad Z C hR hS hl hv1 h2 hZ)
theorem x_icmp_eq {x y : Int32} {off : Int} (tgt : Nat) (hd : decode j.2.1 pc = .ok (.if_icmp .eq off, 3)) (ht : (pc : Int) + off = (tgt : Int)) (kt : x = y → gX K B dp mc ms j tgt lv st cl sl ι ρ Λ Q) (kf : ¬ x = y → gX K B dp mc ms j (pc + 3) lv st cl sl ι ρ Λ Q) : gX K B dp mc ms j pc lv (vI y :: vI x :: st) cl sl ι ρ Λ Q := by
  intro p e R s m args below meth c H locs ls ad Z C hR hS hl hv1 hv2 hZ
  have h2 := (List.forall_mem_cons.mp (List.forall_mem_cons.mp hv2).2).2
  exact lv_icmp_eq C.1 C.2.1 hd ht (fun h => kt h p e R s m args below meth c H locs ls ad Z C hR hS hl hv1 h2 hZ) (fun h => kf h p e R s m args below meth c H locs ls ad Z C hR hS hl hv1 h2 hZ)
theorem x_if_ne {x : Int32} {off : Int} (tgt : Nat) (hd : decode j.2.1 pc = .ok (.ifCond .ne off, 3)) (ht : (pc : Int) + off = (tgt : Int)) (kt : ¬ x = 0 → gX K B dp mc ms j tgt lv st cl sl ι ρ Λ Q) (kf : x = 0 → gX K B dp mc ms j (pc + 3) lv st cl sl ι ρ Λ Q) : gX K B dp mc ms j pc lv (vI x :: st) cl sl ι ρ Λ Q := by
  intro p e R s m args below meth c H locs ls ad Z C hR hS hl hv1 hv2 hZ
  have h2 := (List.forall_mem_cons.mp hv2).2
  exact lv_if_ne C.1 C.2.1 hd ht (fun h => kt h p e R s m args below meth c H locs ls ad Z C hR hS hl hv1 h2 hZ) (fun h => kf h p e R s m args below meth c H locs ls ad Z C hR hS hl hv1 h2 hZ)
theorem x_icmp_ne {x y : Int32} {off : Int} (tgt : Nat) (hd : decode j.2.1 pc = .ok (.if_icmp .ne off, 3)) (ht : (pc : Int) + off = (tgt : Int)) (kt : ¬ x = y → gX K B dp mc ms j tgt lv st cl sl ι ρ Λ Q) (kf : x = y → gX K B dp mc ms j (pc + 3) lv st cl sl ι ρ Λ Q) : gX K B dp mc ms j pc lv (vI y :: vI x :: st) cl sl ι ρ Λ Q := by
  intro p e R s m args below meth c H locs ls ad Z C hR hS hl hv1 hv2 hZ
  have h2 := (List.forall_mem_cons.mp (List.forall_mem_cons.mp hv2).2).2
  exact lv_icmp_ne C.1 C.2.1 hd ht (fun h => kt h p e R s m args below meth c H locs ls ad Z C hR hS hl hv1 h2 hZ) (fun h => kf h p e R s m args below meth c H locs ls ad Z C hR hS hl hv1 h2 hZ)
theorem x_if_lt {x : Int32} {off : Int} (tgt : Nat) (hd : decode j.2.1 pc = .ok (.ifCond .lt off, 3)) (ht : (pc : Int) + off = (tgt : Int)) (kt : x < 0 → gX K B dp mc ms j tgt lv st cl sl ι ρ Λ Q) (kf : ¬ x < 0 → gX K B dp mc ms j (pc + 3) lv st cl sl ι ρ Λ Q) : gX K B dp mc ms j pc lv (vI x :: st) cl sl ι ρ Λ Q := by
  intro p e R s m args below meth c H locs ls ad Z C hR hS hl hv1 hv2 hZ
  have h2 := (List.forall_mem_cons.mp hv2).2
  exact lv_if_lt C.1 C.2.1 hd ht (fun h => kt h p e R s m args below meth c H locs ls ad Z C hR hS hl hv1 h2 hZ) (fun h => kf h p e R s m args below meth c H locs ls ad Z C hR hS hl hv1 h2 hZ)
theorem x_icmp_lt {x y : Int32} {off : Int} (tgt : Nat) (hd : decode j.2.1 pc = .ok (.if_icmp .lt off, 3)) (ht : (pc : Int) + off = (tgt : Int)) (kt : x < y → gX K B dp mc ms j tgt lv st cl sl ι ρ Λ Q) (kf : ¬ x < y → gX K B dp mc ms j (pc + 3) lv st cl sl ι ρ Λ Q) : gX K B dp mc ms j pc lv (vI y :: vI x :: st) cl sl ι ρ Λ Q := by
  intro p e R s m args below meth c H locs ls ad Z C hR hS hl hv1 hv2 hZ
  have h2 := (List.forall_mem_cons.mp (List.forall_mem_cons.mp hv2).2).2
  exact lv_icmp_lt C.1 C.2.1 hd ht (fun h => kt h p e R s m args below meth c H locs ls ad Z C hR hS hl hv1 h2 hZ) (fun h => kf h p e R s m args below meth c H locs ls ad Z C hR hS hl hv1 h2 hZ)
theorem x_if_ge {x : Int32} {off : Int} (tgt : Nat) (hd : decode j.2.1 pc = .ok (.ifCond .ge off, 3)) (ht : (pc : Int) + off = (tgt : Int)) (kt : 0 ≤ x → gX K B dp mc ms j tgt lv st cl sl ι ρ Λ Q) (kf : ¬ 0 ≤ x → gX K B dp mc ms j (pc + 3) lv st cl sl ι ρ Λ Q) : gX K B dp mc ms j pc lv (vI x :: st) cl sl ι ρ Λ Q := by
  intro p e R s m args below meth c H locs ls ad Z C hR hS hl hv1 hv2 hZ
  have h2 := (List.forall_mem_cons.mp hv2).2
  exact lv_if_ge C.1 C.2.1 hd ht (fun h => kt h p e R s m args below meth c H locs ls ad Z C hR hS hl hv1 h2 hZ) (fun h => kf h p e R s m args below meth c H locs ls ad Z C hR hS hl hv1 h2 hZ)
theorem x_icmp_ge {x y : Int32} {off : Int} (tgt : Nat) (hd : decode j.2.1 pc = .ok (.if_icmp .ge off, 3)) (ht : (pc : Int) + off = (tgt : Int)) (kt : y ≤ x → gX K B dp mc ms j tgt lv st cl sl ι ρ Λ Q) (kf : ¬ y ≤ x → gX K B dp mc ms j (pc + 3) lv st cl sl ι ρ Λ Q) : gX K B dp mc ms j pc lv (vI y :: vI x :: st) cl sl ι ρ Λ Q := by
  intro p e R s m args below meth c H locs ls ad Z C hR hS hl hv1 hv2 hZ
  have h2 := (List.forall_mem_cons.mp (List.forall_mem_cons.mp hv2).2).2
  exact lv_icmp_ge C.1 C.2.1 hd ht (fun h => kt h p e R s m args below meth c H locs ls ad Z C hR hS hl hv1 h2 hZ) (fun h => kf h p e R s m args below meth c H locs ls ad Z C hR hS hl hv1 h2 hZ)
theorem x_if_gt {x : Int32} {off : Int} (tgt : Nat) (hd : decode j.2.1 pc = .ok (.ifCond .gt off, 3)) (ht : (pc : Int) + off = (tgt : Int)) (kt : 0 < x → gX K B dp mc ms j tgt lv st cl sl ι ρ Λ Q) (kf : ¬ 0 < x → gX K B dp mc ms j (pc + 3) lv st cl sl ι ρ Λ Q) : gX K B dp mc ms j pc lv (vI x :: st) cl sl ι ρ Λ Q := by
  intro p e R s m args below meth c H locs ls ad Z C hR hS hl hv1 hv2 hZ
  have h2 := (List.forall_mem_cons.mp hv2).2
  exact lv_if_gt C.1 C.2.1 hd ht (fun h => kt h p e R s m args below meth c H locs ls ad Z C hR hS hl hv1 h2 hZ) (fun h => kf h p e R s m args below meth c H locs ls ad Z C hR hS hl hv1 h2 hZ)
theorem x_icmp_gt {x y : Int32} {off : Int} (tgt : Nat) (hd : decode j.2.1 pc = .ok (.if_icmp .gt off, 3)) (ht : (pc : Int) + off = (tgt : Int)) (kt : y < x → gX K B dp mc ms j tgt lv st cl sl ι ρ Λ Q) (kf : ¬ y < x → gX K B dp mc ms j (pc + 3) lv st cl sl ι ρ Λ Q) : gX K B dp mc ms j pc lv (vI y :: vI x :: st) cl sl ι ρ Λ Q := by
  intro p e R s m args below meth c H locs ls ad Z C hR hS hl hv1 hv2 hZ
  have h2 := (List.forall_mem_cons.mp (List.forall_mem_cons.mp hv2).2).2
  exact lv_icmp_gt C.1 C.2.1 hd ht (fun h => kt h p e R s m args below meth c H locs ls ad Z C hR hS hl hv1 h2 hZ) (fun h => kf h p e R s m args below meth c H locs ls ad Z C hR hS hl hv1 h2 hZ)
theorem x_if_le {x : Int32} {off : Int} (tgt : Nat) (hd : decode j.2.1 pc = .ok (.ifCond .le off, 3)) (ht : (pc : Int) + off = (tgt : Int)) (kt : x ≤ 0 → gX K B dp mc ms j tgt lv st cl sl ι ρ Λ Q) (kf : ¬ x ≤ 0 → gX K B dp mc ms j (pc + 3) lv st cl sl ι ρ Λ Q) : gX K B dp mc ms j pc lv (vI x :: st) cl sl ι ρ Λ Q := by
  intro p e R s m args below meth c H locs ls ad Z C hR hS hl hv1 hv2 hZ
  have h2 := (List.forall_mem_cons.mp hv2).2
  exact lv_if_le C.1 C.2.1 hd ht (fun h => kt h p e R s m args below meth c H locs ls ad Z C hR hS hl hv1 h2 hZ) (fun h => kf h p e R s m args below meth c H locs ls ad Z C hR hS hl hv1 h2 hZ)
theorem x_icmp_le {x y : Int32} {off : Int} (tgt : Nat) (hd : decode j.2.1 pc = .ok (.if_icmp .le off, 3)) (ht : (pc : Int) + off = (tgt : Int)) (kt : x ≤ y → gX K B dp mc ms j tgt lv st cl sl ι ρ Λ Q) (kf : ¬ x ≤ y → gX K B dp mc ms j (pc + 3) lv st cl sl ι ρ Λ Q) : gX K B dp mc ms j pc lv (vI y :: vI x :: st) cl sl ι ρ Λ Q := by
  intro p e R s m args below meth c H locs ls ad Z C hR hS hl hv1 hv2 hZ
  have h2 := (List.forall_mem_cons.mp (List.forall_mem_cons.mp hv2).2).2
  exact lv_icmp_le C.1 C.2.1 hd ht (fun h => kt h p e R s m args below meth c H locs ls ad Z C hR hS hl hv1 h2 hZ) (fun h => kf h p e R s m args below meth c H locs ls ad Z C hR hS hl hv1 h2 hZ)
theorem x_tableOut {dflt lo hi : Int} {offs : Array Int} {len : Nat} {x : Int32} (tgt : Nat) (hd : decode j.2.1 pc = .ok (.tableswitch dflt lo hi offs, len)) (h : x.toInt < lo ∨ hi < x.toInt) (ht : (pc : Int) + dflt = (tgt : Int)) (k : gX K B dp mc ms j tgt lv st cl sl ι ρ Λ Q) : gX K B dp mc ms j pc lv (vI x :: st) cl sl ι ρ Λ Q := by
  intro p e R s m args below meth c H locs ls ad Z C hR hS hl hv1 hv2 hZ
  exact lv_tableOut C.1 C.2.1 hd h ht (k p e R s m args below meth c H locs ls ad Z C hR hS hl hv1 (List.forall_mem_cons.mp hv2).2 hZ)
theorem x_tableIn {dflt lo hi : Int} {offs : Array Int} {len : Nat} {x : Int32} {off : Int} (tgt : Nat) (n : Nat) (hd : decode j.2.1 pc = .ok (.tableswitch dflt lo hi offs, len)) (h1 : ¬ x.toInt < lo) (h2 : ¬ hi < x.toInt) (hn : (x.toInt - lo).toNat = n) (ho : offs[n]? = some off) (ht : (pc : Int) + off = (tgt : Int)) (k : gX K B dp mc ms j tgt lv st cl sl ι ρ Λ Q) : gX K B dp mc ms j pc lv (vI x :: st) cl sl ι ρ Λ Q := by
  intro p e R s m args below meth c H locs ls ad Z C hR hS hl hv1 hv2 hZ
  subst hn
  exact lv_tableIn C.1 C.2.1 hd h1 h2 ho ht (k p e R s m args below meth c H locs ls ad Z C hR hS hl hv1 (List.forall_mem_cons.mp hv2).2 hZ)
theorem x_null (hd : decode j.2.1 pc = .ok (.aconst_null, 1)) (k : gX K B dp mc ms j (pc + 1) lv (vN :: st) cl sl ι ρ Λ Q) : gX K B dp mc ms j pc lv st cl sl ι ρ Λ Q := by
  intro p e R s m args below meth c H locs ls ad Z C hR hS hl hv1 hv2 hZ
  exact lv_null C.1 C.2.1 hd (k p e R s m args below meth c H locs ls ad Z C hR hS hl hv1 (List.forall_mem_cons.mpr ⟨gLive.null, hv2⟩) hZ)
theorem x_ifnull {o : Option Nat} {off : Int} (tgt : Nat) (hd : decode j.2.1 pc = .ok (.ifnull off, 3)) (ht : (pc : Int) + off = (tgt : Int)) (kt : o = none → gX K B dp mc ms j tgt lv st cl sl ι ρ Λ Q) (kf : ∀ a, o = some a → gX K B dp mc ms j (pc + 3) lv st cl sl ι ρ Λ Q) : gX K B dp mc ms j pc lv (vO o :: st) cl sl ι ρ Λ Q := by
  intro p e R s m args below meth c H locs ls ad Z C hR hS hl hv1 hv2 hZ
  have h2 := (List.forall_mem_cons.mp hv2).2
  cases o with
  | none => exact lv_ifnullN C.1 C.2.1 hd ht (kt rfl p e R s m args below meth c H locs ls ad Z C hR hS hl hv1 h2 hZ)
  | some a => exact lv_ifnull C.1 C.2.1 hd (kf a rfl p e R s m args below meth c H locs ls ad Z C hR hS hl hv1 h2 hZ)
theorem x_ifnonnull {o : Option Nat} {off : Int} (tgt : Nat) (hd : decode j.2.1 pc = .ok (.ifnonnull off, 3)) (ht : (pc : Int) + off = (tgt : Int)) (kt : ∀ a, o = some a → gX K B dp mc ms j tgt lv st cl sl ι ρ Λ Q) (kf : o = none → gX K B dp mc ms j (pc + 3) lv st cl sl ι ρ Λ Q) : gX K B dp mc ms j pc lv (vO o :: st) cl sl ι ρ Λ Q := by
  intro p e R s m args below meth c H locs ls ad Z C hR hS hl hv1 hv2 hZ
  have h2 := (List.forall_mem_cons.mp hv2).2
  cases o with
  | none => exact lv_ifnonnullN C.1 C.2.1 hd (kf rfl p e R s m args below meth c H locs ls ad Z C hR hS hl hv1 h2 hZ)
  | some a => exact lv_ifnonnull C.1 C.2.1 hd ht (kt a rfl p e R s m args below meth c H locs ls ad Z C hR hS hl hv1 h2 hZ)
theorem x_ireturn {x : Int32} (hd : decode j.2.1 pc = .ok (.ireturn, 1)) (hr : j.2.2.2 = some .int) (hq : Q (some (vI x)) ι ρ Λ) : gX K B dp mc ms j pc lv [vI x] mc ms ι ρ Λ Q := by
  intro p e R s m args below meth c H locs ls ad Z C hR hS hl hv1 hv2 hZ
  exact hZ pc ls (some (vI x)) ι ρ Λ ad H locs hq hR gExt.rf (fun v h => by cases h; exact gLive.int) hS ⟨hd, Or.inl hr⟩
theorem x_zreturn {x : Int32} (hd : decode j.2.1 pc = .ok (.ireturn, 1)) (hr : j.2.2.2 = some .boolean) (hx : x = 0 ∨ x = 1) (hq : Q (some (vI x)) ι ρ Λ) : gX K B dp mc ms j pc lv [vI x] mc ms ι ρ Λ Q := by
  intro p e R s m args below meth c H locs ls ad Z C hR hS hl hv1 hv2 hZ
  exact hZ pc ls (some (vI x)) ι ρ Λ ad H locs hq hR gExt.rf (fun v h => by cases h; exact gLive.int) hS ⟨hd, Or.inr ⟨hr, hx⟩⟩
theorem x_areturn {o : Option Nat ⊕ Nat} (hd : decode j.2.1 pc = .ok (.areturn, 1)) (hq : Q (some (Sum.inr o)) ι ρ Λ) : gX K B dp mc ms j pc lv [Sum.inr o] mc ms ι ρ Λ Q := by
  intro p e R s m args below meth c H locs ls ad Z C hR hS hl hv1 hv2 hZ
  exact hZ pc ls (some (Sum.inr o)) ι ρ Λ ad H locs hq hR gExt.rf (fun v h => by cases h; exact (List.forall_mem_cons.mp hv2).1) hS hd
theorem x_return (hd : decode j.2.1 pc = .ok (.return_, 1)) (hq : Q none ι ρ Λ) : gX K B dp mc ms j pc lv [] mc ms ι ρ Λ Q := by
  intro p e R s m args below meth c H locs ls ad Z C hR hS hl hv1 hv2 hZ
  exact hZ pc ls none ι ρ Λ ad H locs hq hR gExt.rf (fun v h => by cases h) hS hd
theorem x_widen (cl' sl' : Nat) (h1 : cl ≤ cl') (h2 : sl ≤ sl') (k : gX K B dp mc ms j pc lv st cl' sl' ι ρ Λ Q) : gX K B dp mc ms j pc lv st cl sl ι ρ Λ Q := by
  intro p e R s m args below meth c H locs ls ad Z C hR hS hl hv1 hv2 hZ
  exact W.widen h1 h2 (k p e R s m args below meth c H locs ls ad Z C hR hS hl hv1 hv2 hZ)
/-- fewer locals are known -/
theorem x_less {lv' : List (Option gV)} (h : ∀ (i : Nat) (v : gV), lv'[i]? = some (some v) → lv[i]? = some (some v)) (k : gX K B dp mc ms j pc lv' st cl sl ι ρ Λ Q) : gX K B dp mc ms j pc lv st cl sl ι ρ Λ Q := by
  intro p e R s m args below meth c H locs ls ad Z C hR hS hl hv1 hv2 hZ
  refine k p e R s m args below meth c H locs ls ad Z C hR hS ⟨hl.1, hl.2.1, fun i v hi => hl.2.2 i v (h i v hi)⟩ (fun v hv => ?_) hv2 hZ
  obtain ⟨i, hi⟩ := List.getElem?_of_mem hv
  exact hv1 v (List.mem_of_getElem? (h i v hi))
theorem x_post {Q' : gQ} (h : ∀ r a b c, Q' r a b c → Q r a b c) (k : gX K B dp mc ms j pc lv st cl sl ι ρ Λ Q') : gX K B dp mc ms j pc lv st cl sl ι ρ Λ Q := by
  intro p e R s m args below meth c H locs ls ad Z C hR hS hl hv1 hv2 hZ
  exact k p e R s m args below meth c H locs ls ad Z C hR hS hl hv1 hv2 (fun pc' ls' r ι' ρ' Λ' ad' H' locs' hq => hZ pc' ls' r ι' ρ' Λ' ad' H' locs' (h _ _ _ _ hq))
end RULES
end
section
/-! rows that read and write the memory -/
section MEM
variable {K : gK} {B : gB} {dp mc ms : Nat} {j : gJ} {pc : Nat} {lv : List (Option gV)} {st : List gV} {cl sl : Nat} {ι : gIm} {ρ : gRm} {Λ : gLm} {Q : gQ}
theorem gFs_val {ad : Nat → Nat} {r : Nat → Int32} {q : Nat → Option Nat} {ci k : Nat} (h : k < gNf ci) (hr : gIsR ci k = false) : (gFs ad r q ci)[k]? = some (.int (r k)) := by
  rw [gFs_at h]; unfold gFv; rw [hr]; rfl
theorem gFs_ref {ad : Nat → Nat} {r : Nat → Int32} {q : Nat → Option Nat} {ci k : Nat} (h : k < gNf ci) (hr : gIsR ci k = true) : (gFs ad r q ci)[k]? = some (va_rf ((q k).map ad)) := by
  rw [gFs_at h]; unfold gFv; rw [hr]; rfl
theorem x_geti {idx c ci : Nat} (k : Nat) (hd : decode j.2.1 pc = .ok (.getfield idx, 3)) (hf : gFld j.1.cls idx ci k ∨ gFldF j.1.cls idx ci k) (hs : shp c = ci) (hr : gIsR ci k = false) (kk : gX K B dp mc ms j (pc + 3) lv (vI (ι c k) :: st) cl sl ι ρ Λ Q) : gX K B dp mc ms j pc lv (vR c :: st) cl sl ι ρ Λ Q := by
  intro p e R s m args below meth c0 H locs ls ad Z C hR hS hl hv1 hv2 hZ
  obtain ⟨hx, hb, hml, hown, hts, hmn, hrm, hA, hKs, hB⟩ := id C
  obtain ⟨hin, h2⟩ := List.forall_mem_cons.mp hv2
  have hf : ∃ q : vw_C, gcl[ci]? = some q ∧ k < q.2.2 ∧ Cond.fieldLink j.1.cls idx q.1 (q.2.1 k).2.1 (q.2.1 k).2.2.1 ∈ gT := hf.elim (fun ⟨q, a, b, c, _⟩ => ⟨q, a, b, c⟩) (fun ⟨q, a, b, c, _⟩ => ⟨q, a, b, c⟩)
  obtain ⟨⟨C', T', N'⟩, hq, hk, hw⟩ := hf
  obtain ⟨q0, hq0⟩ := gW_get (dA := K.2.1.2) (ad := ad) (ι := ι) (ρ := ρ) (hin c rfl)
  rw [gE_obj hs (gcl_lt hq)] at hq0
  refine va_get (D := K.2.1.1) (C := C') (T := T') (N := N') (ref := C') (v := .int (ι c k)) hx hb hts (gcl_in ci _ hq) hown hKs.1 hR.1 q0 hq0 hq k hk (hts _ hw) (fun x h => by rw [show (T' k).1 = C' from gcl_ed ci _ hq k hk] at h; exact h) (gFs_val (by rw [gNf_of hq]; exact hk) hr) hd ?_
  exact kk p e R s m args below meth c0 H locs ls ad Z C hR hS hl hv1 (List.forall_mem_cons.mpr ⟨gLive.int, h2⟩) hZ
theorem x_getr {idx c ci : Nat} (k : Nat) (o : Option Nat) (hd : decode j.2.1 pc = .ok (.getfield idx, 3)) (hf : gFld j.1.cls idx ci k ∨ gFldF j.1.cls idx ci k) (hs : shp c = ci) (hr : gIsR ci k = true) (ho : ρ c k = o) (kk : gX K B dp mc ms j (pc + 3) lv (vO o :: st) cl sl ι ρ Λ Q) : gX K B dp mc ms j pc lv (vR c :: st) cl sl ι ρ Λ Q := by
  intro p e R s m args below meth c0 H locs ls ad Z C hR hS hl hv1 hv2 hZ
  subst ho
  obtain ⟨hx, hb, hml, hown, hts, hmn, hrm, hA, hKs, hB⟩ := id C
  obtain ⟨hin, h2⟩ := List.forall_mem_cons.mp hv2
  have hf : ∃ q : vw_C, gcl[ci]? = some q ∧ k < q.2.2 ∧ Cond.fieldLink j.1.cls idx q.1 (q.2.1 k).2.1 (q.2.1 k).2.2.1 ∈ gT := hf.elim (fun ⟨q, a, b, c, _⟩ => ⟨q, a, b, c⟩) (fun ⟨q, a, b, c, _⟩ => ⟨q, a, b, c⟩)
  obtain ⟨⟨C', T', N'⟩, hq, hk, hw⟩ := hf
  obtain ⟨q0, hq0⟩ := gW_get (dA := K.2.1.2) (ad := ad) (ι := ι) (ρ := ρ) (hin c rfl)
  rw [gE_obj hs (gcl_lt hq)] at hq0
  refine va_get (D := K.2.1.1) (C := C') (T := T') (N := N') (ref := C') (v := va_rf ((ρ c k).map ad)) hx hb hts (gcl_in ci _ hq) hown hKs.1 hR.1 q0 hq0 hq k hk (hts _ hw) (fun x h => by rw [show (T' k).1 = C' from gcl_ed ci _ hq k hk] at h; exact h) (gFs_ref (by rw [gNf_of hq]; exact hk) hr) hd ?_
  exact kk p e R s m args below meth c0 H locs ls ad Z C hR hS hl hv1 (List.forall_mem_cons.mpr ⟨gLive.opt fun d hd2 => hR.2.2 c k d (hin c rfl) hd2, h2⟩) hZ
theorem gClosed_up {Λ : gLm} {ρ : gRm} {c k : Nat} {o : Option Nat} (h : ∀ c k d, c ∈ Λ.1 → ρ c k = some d → d ∈ Λ.1) (ho : ∀ d, o = some d → d ∈ Λ.1) : ∀ c' k' d, c' ∈ Λ.1 → up2 ρ c k o c' k' = some d → d ∈ Λ.1 := by
  intro c' k' d hc hd
  by_cases h1 : c' = c
  · subst h1
    rw [up2_row] at hd
    by_cases h2 : k' = k
    · subst h2
      rw [va_up_self] at hd
      exact ho d hd
    · rw [va_up_ne _ _ h2] at hd
      exact h c' k' d hc hd
  · rw [up2_ne _ _ _ h1] at hd
    exact h c' k' d hc hd
theorem gFv_upi {ad : Nat → Nat} {r : Nat → Int32} {q : Nat → Option Nat} {ci k : Nat} {v : Int32} : ∀ i, i ≠ k → gFv ad (va_up r k v) q ci i = gFv ad r q ci i := fun i hi => by unfold gFv; rw [va_up_ne _ _ hi]
theorem gFv_upr {ad : Nat → Nat} {r : Nat → Int32} {q : Nat → Option Nat} {ci k : Nat} {v : Option Nat} : ∀ i, i ≠ k → gFv ad r (va_up q k v) ci i = gFv ad r q ci i := fun i hi => by unfold gFv; rw [va_up_ne _ _ hi]
theorem x_puti {idx c ci : Nat} {v : Int32} (k : Nat) (hd : decode j.2.1 pc = .ok (.putfield idx, 3)) (hf : gFld j.1.cls idx ci k) (hs : shp c = ci) (hr : gty ci k = .int ∨ (gty ci k = .boolean ∧ (v = 0 ∨ v = 1))) (hr2 : gIsR ci k = false) (kk : ∀ ι', ι' = up2 ι c k v → gX K B dp mc ms j (pc + 3) lv st cl sl ι' ρ Λ Q) : gX K B dp mc ms j pc lv (vI v :: vR c :: st) cl sl ι ρ Λ Q := by
  intro p e R s m args below meth c0 H locs ls ad Z C hR hS hl hv1 hv2 hZ
  obtain ⟨hx, hb, hml, hown, hts, hmn, hrm, hA, hKs, hB⟩ := id C
  obtain ⟨hin, h2⟩ := List.forall_mem_cons.mp (List.forall_mem_cons.mp hv2).2
  obtain ⟨⟨C', T', N'⟩, hq, hk, hw, hfin⟩ := hf
  obtain ⟨q0, hq0⟩ := gW_get (dA := K.2.1.2) (ad := ad) (ι := ι) (ρ := ρ) (hin c rfl)
  have hq1 := hq0
  rw [gE_obj hs (gcl_lt hq)] at hq0
  have hn : narrow (gty ci k) (.int v) = .int v ∧ fits (gty ci k) (.int v) = true := by
    rcases hr with h | ⟨h, rfl | rfl⟩ <;> rw [h] <;> exact ⟨rfl, rfl⟩
  have hE : gE K.2.1.2 ad (up2 ι c k v) ρ Λ.2 c = .inr (ci, (gFs ad (ι c) (ρ c) ci).set k (.int v)) := by
    rw [gE_obj hs (gcl_lt hq), up2_row, ← gFs_set (k := k) (gFv_upi (ad := ad) (r := ι c) (q := ρ c) (ci := ci) (v := v))]
    congr 3
    unfold gFv
    rw [hr2, va_up_self]; rfl
  have hW := gW_set (e := .inr (ci, (gFs ad (ι c) (ρ c) ci).set k (.int v))) hR.2.1 (hin c rfl) hq1 hE (fun d hd2 => gE_same (up2_ne ι k v hd2) rfl)
  refine va_put (D := K.2.1.1) (C := C') (T := T') (N := N') (ref := C') (v := .int v) hx hb hts (gcl_in ci _ hq) (gty ci) (gcl_ty ci _ hq) (gcl_nm ci _ hq) hown hKs.1 hR.1 hR.2.1 hS q0 hq0 hq k hk (hts _ hw) (fun x h => by rw [show (T' k).1 = C' from gcl_ed ci _ hq k hk] at h; exact h) hfin (gcl_ty ci _ hq k hk) hn.1 hn.2 (by rw [gFs_len, gNf_of hq]; exact hk) hd (fun H1 locs1 hP1 hD1 hS1 => ?_)
  rw [hW] at hP1 hD1
  exact kk _ rfl p e R s m args below meth c0 H1 locs1 ls ad Z C ⟨hP1, hD1, hR.2.2⟩ hS1 hl hv1 h2 hZ
/-- a final int field, in the constructor -/
theorem x_putiF {idx c ci : Nat} {v : Int32} (k : Nat) (hd : decode j.2.1 pc = .ok (.putfield idx, 3)) (hf : gFldF j.1.cls idx ci k) (hj : j.1.name = "<init>") (ho : (gcl.getD ci ("", gf0, 0)).1 = j.1.cls) (hs : shp c = ci) (hr : gty ci k = .int ∨ (gty ci k = .boolean ∧ (v = 0 ∨ v = 1))) (hr2 : gIsR ci k = false) (kk : ∀ ι', ι' = up2 ι c k v → gX K B dp mc ms j (pc + 3) lv st cl sl ι' ρ Λ Q) : gX K B dp mc ms j pc lv (vI v :: vR c :: st) cl sl ι ρ Λ Q := by
  intro p e R s m args below meth c0 H locs ls ad Z C hR hS hl hv1 hv2 hZ
  obtain ⟨hx, hb, hml, hown, hts, hmn, hrm, hA, hKs, hB⟩ := id C
  obtain ⟨hin, h2⟩ := List.forall_mem_cons.mp (List.forall_mem_cons.mp hv2).2
  obtain ⟨⟨C', T', N'⟩, hq, hk, hw, hfin⟩ := hf
  obtain ⟨q0, hq0⟩ := gW_get (dA := K.2.1.2) (ad := ad) (ι := ι) (ρ := ρ) (hin c rfl)
  have hq1 := hq0
  rw [gE_obj hs (gcl_lt hq)] at hq0
  have hn : narrow (gty ci k) (.int v) = .int v ∧ fits (gty ci k) (.int v) = true := by
    rcases hr with h | ⟨h, rfl | rfl⟩ <;> rw [h] <;> exact ⟨rfl, rfl⟩
  have hE : gE K.2.1.2 ad (up2 ι c k v) ρ Λ.2 c = .inr (ci, (gFs ad (ι c) (ρ c) ci).set k (.int v)) := by
    rw [gE_obj hs (gcl_lt hq), up2_row, ← gFs_set (k := k) (gFv_upi (ad := ad) (r := ι c) (q := ρ c) (ci := ci) (v := v))]
    congr 3
    unfold gFv
    rw [hr2, va_up_self]; rfl
  have hW := gW_set (e := .inr (ci, (gFs ad (ι c) (ρ c) ci).set k (.int v))) hR.2.1 (hin c rfl) hq1 hE (fun d hd2 => gE_same (up2_ne ι k v hd2) rfl)
  have hcc : C' = j.1.cls := by
    rw [List.getD_eq_getElem?_getD, hq] at ho
    exact ho
  refine va_putF (D := K.2.1.1) (C := C') (T := T') (N := N') (ref := C') (v := .int v) hx hb hts (gcl_in ci _ hq) (gty ci) (gcl_ty ci _ hq) (gcl_nm ci _ hq) hown hKs.1 hR.1 hR.2.1 hS q0 hq0 hq k hk (hts _ hw) (fun x h => by rw [show (T' k).1 = C' from gcl_ed ci _ hq k hk] at h; exact h) hfin (hmn.trans hj) (by rw [show (T' k).1 = C' from gcl_ed ci _ hq k hk]; exact hcc) (gcl_ty ci _ hq k hk) hn.1 hn.2 (by rw [gFs_len, gNf_of hq]; exact hk) hd (fun H1 locs1 hP1 hD1 hS1 => ?_)
  rw [hW] at hP1 hD1
  exact kk _ rfl p e R s m args below meth c0 H1 locs1 ls ad Z C ⟨hP1, hD1, hR.2.2⟩ hS1 hl hv1 h2 hZ
theorem gRefOk {ci k : Nat} (h : (∃ n, gty ci k = .object n) ∨ ∃ t, gty ci k = .array t) (o : Option Nat) : narrow (gty ci k) (va_rf o) = va_rf o ∧ fits (gty ci k) (va_rf o) = true := by
  rcases h with ⟨n, h⟩ | ⟨t, h⟩ <;> rw [h] <;> cases o <;> exact ⟨rfl, rfl⟩
/-- a final reference field, in the constructor -/
theorem x_putrF {idx c ci : Nat} {o : Option Nat} (k : Nat) (hd : decode j.2.1 pc = .ok (.putfield idx, 3)) (hf : gFldF j.1.cls idx ci k) (hj : j.1.name = "<init>") (ho : (gcl.getD ci ("", gf0, 0)).1 = j.1.cls) (hs : shp c = ci) (hr : (∃ n, gty ci k = .object n) ∨ ∃ t, gty ci k = .array t) (hr2 : gIsR ci k = true) (kk : ∀ ρ', ρ' = up2 ρ c k o → gX K B dp mc ms j (pc + 3) lv st cl sl ι ρ' Λ Q) : gX K B dp mc ms j pc lv (vO o :: vR c :: st) cl sl ι ρ Λ Q := by
  intro p e R s m args below meth c0 H locs ls ad Z C hR hS hl hv1 hv2 hZ
  obtain ⟨hx, hb, hml, hown, hts, hmn, hrm, hA, hKs, hB⟩ := id C
  obtain ⟨hlo, hv3⟩ := List.forall_mem_cons.mp hv2
  obtain ⟨hin, h2⟩ := List.forall_mem_cons.mp hv3
  obtain ⟨⟨C', T', N'⟩, hq, hk, hw, hfin⟩ := hf
  obtain ⟨q0, hq0⟩ := gW_get (dA := K.2.1.2) (ad := ad) (ι := ι) (ρ := ρ) (hin c rfl)
  have hq1 := hq0
  rw [gE_obj hs (gcl_lt hq)] at hq0
  have hn := gRefOk hr (o.map ad)
  have hE : gE K.2.1.2 ad ι (up2 ρ c k o) Λ.2 c = .inr (ci, (gFs ad (ι c) (ρ c) ci).set k (va_rf (o.map ad))) := by
    rw [gE_obj hs (gcl_lt hq), up2_row, ← gFs_set (k := k) (gFv_upr (ad := ad) (r := ι c) (q := ρ c) (ci := ci) (v := o))]
    congr 3
    unfold gFv
    rw [hr2, va_up_self]; rfl
  have hW := gW_set (e := .inr (ci, (gFs ad (ι c) (ρ c) ci).set k (va_rf (o.map ad)))) hR.2.1 (hin c rfl) hq1 hE (fun d hd2 => gE_same rfl (up2_ne ρ k o hd2))
  have hcc : C' = j.1.cls := by
    rw [List.getD_eq_getElem?_getD, hq] at ho
    exact ho
  refine va_putF (D := K.2.1.1) (C := C') (T := T') (N := N') (ref := C') (v := va_rf (o.map ad)) hx hb hts (gcl_in ci _ hq) (gty ci) (gcl_ty ci _ hq) (gcl_nm ci _ hq) hown hKs.1 hR.1 hR.2.1 hS q0 hq0 hq k hk (hts _ hw) (fun x h => by rw [show (T' k).1 = C' from gcl_ed ci _ hq k hk] at h; exact h) hfin (hmn.trans hj) (by rw [show (T' k).1 = C' from gcl_ed ci _ hq k hk]; exact hcc) (gcl_ty ci _ hq k hk) hn.1 hn.2 (by rw [gFs_len, gNf_of hq]; exact hk) hd (fun H1 locs1 hP1 hD1 hS1 => ?_)
  rw [hW] at hP1 hD1
  exact kk _ rfl p e R s m args below meth c0 H1 locs1 ls ad Z C ⟨hP1, hD1, gClosed_up hR.2.2 (fun d h => hlo d (by rw [h]))⟩ hS1 hl hv1 h2 hZ
end MEM
end
