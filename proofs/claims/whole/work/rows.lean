section
-- ===== PART A: goes FIRST, ahead of the names: the tables' words, and 'selects' of the private methods out of them =====
/-- a private method of a class that the tables say can be made, by its rows of tables_1 -/
def lw_okq (q : MethodName × Nat) : Prop := (q.1.cls ≠ "java/lang/invoke/MethodHandle" ∧ q.1.cls ≠ "java/lang/invoke/VarHandle") ∧ Cond.instantiable q.1.cls q.2 ∈ tables_1 ∧ Cond.privateMethod q.1 ∈ tables_1 ∧ Cond.instanceMethod q.1 ∈ tables_1
theorem lw_p0 : lw_okq (⟨"PreferTable", "isNode", "(I)Z"⟩, 11) := ⟨⟨by decide +kernel, by decide +kernel⟩, List.mem_of_getElem? (i := 22) (by decide +kernel), List.mem_of_getElem? (i := 202) (by decide +kernel), List.mem_of_getElem? (i := 203) (by decide +kernel)⟩
theorem lw_p1 : lw_okq (⟨"PreferTable", "isSaved", "(I)Z"⟩, 11) := ⟨⟨by decide +kernel, by decide +kernel⟩, List.mem_of_getElem? (i := 22) (by decide +kernel), List.mem_of_getElem? (i := 234) (by decide +kernel), List.mem_of_getElem? (i := 235) (by decide +kernel)⟩
theorem lw_p2 : lw_okq (⟨"PreferTable", "keepUp", "(LPreferTable$Question;)V"⟩, 11) := ⟨⟨by decide +kernel, by decide +kernel⟩, List.mem_of_getElem? (i := 22) (by decide +kernel), List.mem_of_getElem? (i := 241) (by decide +kernel), List.mem_of_getElem? (i := 242) (by decide +kernel)⟩
theorem lw_p3 : lw_okq (⟨"PreferTable$Contest", "letIn", "(LPreferTable$Rows;LPreferTable$Conditions;)V"⟩, 3) := ⟨⟨by decide +kernel, by decide +kernel⟩, List.mem_of_getElem? (i := 78) (by decide +kernel), List.mem_of_getElem? (i := 249) (by decide +kernel), List.mem_of_getElem? (i := 250) (by decide +kernel)⟩
theorem lw_p4 : lw_okq (⟨"PreferTable$Layers", "find", "(I)I"⟩, 6) := ⟨⟨by decide +kernel, by decide +kernel⟩, List.mem_of_getElem? (i := 285) (by decide +kernel), List.mem_of_getElem? (i := 283) (by decide +kernel), List.mem_of_getElem? (i := 284) (by decide +kernel)⟩
theorem lw_p5 : lw_okq (⟨"PreferTable$ValueOrder", "distance", "(I)J"⟩, 7) := ⟨⟨by decide +kernel, by decide +kernel⟩, List.mem_of_getElem? (i := 294) (by decide +kernel), List.mem_of_getElem? (i := 292) (by decide +kernel), List.mem_of_getElem? (i := 293) (by decide +kernel)⟩
theorem lw_p6 : lw_okq (⟨"PreferTable$Contest", "note", "(III)V"⟩, 3) := ⟨⟨by decide +kernel, by decide +kernel⟩, List.mem_of_getElem? (i := 78) (by decide +kernel), List.mem_of_getElem? (i := 309) (by decide +kernel), List.mem_of_getElem? (i := 310) (by decide +kernel)⟩
theorem lw_p7 : lw_okq (⟨"PreferTable", "markRead", "(LPreferTable$Question;)V"⟩, 11) := ⟨⟨by decide +kernel, by decide +kernel⟩, List.mem_of_getElem? (i := 22) (by decide +kernel), List.mem_of_getElem? (i := 329) (by decide +kernel), List.mem_of_getElem? (i := 330) (by decide +kernel)⟩
theorem lw_p8 : lw_okq (⟨"java/lang/Throwable", "fillInStackTrace", "(I)Ljava/lang/Throwable;"⟩, 6) := ⟨⟨by decide +kernel, by decide +kernel⟩, List.mem_of_getElem? (i := 388) (by decide +kernel), List.mem_of_getElem? (i := 386) (by decide +kernel), List.mem_of_getElem? (i := 387) (by decide +kernel)⟩
theorem lw_p9 : lw_okq (⟨"PreferTable", "newOrder", "(IIII)LPreferTable$Node;"⟩, 11) := ⟨⟨by decide +kernel, by decide +kernel⟩, List.mem_of_getElem? (i := 22) (by decide +kernel), List.mem_of_getElem? (i := 471) (by decide +kernel), List.mem_of_getElem? (i := 472) (by decide +kernel)⟩
theorem lw_p10 : lw_okq (⟨"PreferTable", "addNode", "(LPreferTable$Node;)I"⟩, 11) := ⟨⟨by decide +kernel, by decide +kernel⟩, List.mem_of_getElem? (i := 22) (by decide +kernel), List.mem_of_getElem? (i := 552) (by decide +kernel), List.mem_of_getElem? (i := 553) (by decide +kernel)⟩
theorem lw_p11 : lw_okq (⟨"PreferTable", "addEdge", "(LPreferTable$Graph;II)Z"⟩, 11) := ⟨⟨by decide +kernel, by decide +kernel⟩, List.mem_of_getElem? (i := 22) (by decide +kernel), List.mem_of_getElem? (i := 564) (by decide +kernel), List.mem_of_getElem? (i := 565) (by decide +kernel)⟩
theorem lw_p12 : lw_okq (⟨"PreferTable$Contest", "setLevel", "(II)V"⟩, 3) := ⟨⟨by decide +kernel, by decide +kernel⟩, List.mem_of_getElem? (i := 78) (by decide +kernel), List.mem_of_getElem? (i := 663) (by decide +kernel), List.mem_of_getElem? (i := 664) (by decide +kernel)⟩
theorem lw_p13 : lw_okq (⟨"PreferTable$Contest", "unbeatenAmong", "(I)I"⟩, 3) := ⟨⟨by decide +kernel, by decide +kernel⟩, List.mem_of_getElem? (i := 78) (by decide +kernel), List.mem_of_getElem? (i := 667) (by decide +kernel), List.mem_of_getElem? (i := 668) (by decide +kernel)⟩
theorem lw_p14 : lw_okq (⟨"PreferTable$Term", "pDecidesAlone", "()Z"⟩, 6) := ⟨⟨by decide +kernel, by decide +kernel⟩, List.mem_of_getElem? (i := 591) (by decide +kernel), List.mem_of_getElem? (i := 751) (by decide +kernel), List.mem_of_getElem? (i := 752) (by decide +kernel)⟩
theorem lw_p15 : lw_okq (⟨"PreferTableModel", "present", "()I"⟩, 34) := ⟨⟨by decide +kernel, by decide +kernel⟩, List.mem_of_getElem? (i := 767) (by decide +kernel), List.mem_of_getElem? (i := 885) (by decide +kernel), List.mem_of_getElem? (i := 886) (by decide +kernel)⟩
def lw_privs_1 : List (MethodName × Nat) := [(⟨"PreferTable", "isNode", "(I)Z"⟩, 11), (⟨"PreferTable", "isSaved", "(I)Z"⟩, 11), (⟨"PreferTable", "keepUp", "(LPreferTable$Question;)V"⟩, 11), (⟨"PreferTable$Contest", "letIn", "(LPreferTable$Rows;LPreferTable$Conditions;)V"⟩, 3), (⟨"PreferTable$Layers", "find", "(I)I"⟩, 6), (⟨"PreferTable$ValueOrder", "distance", "(I)J"⟩, 7), (⟨"PreferTable$Contest", "note", "(III)V"⟩, 3), (⟨"PreferTable", "markRead", "(LPreferTable$Question;)V"⟩, 11), (⟨"java/lang/Throwable", "fillInStackTrace", "(I)Ljava/lang/Throwable;"⟩, 6), (⟨"PreferTable", "newOrder", "(IIII)LPreferTable$Node;"⟩, 11), (⟨"PreferTable", "addNode", "(LPreferTable$Node;)I"⟩, 11), (⟨"PreferTable", "addEdge", "(LPreferTable$Graph;II)Z"⟩, 11), (⟨"PreferTable$Contest", "setLevel", "(II)V"⟩, 3), (⟨"PreferTable$Contest", "unbeatenAmong", "(I)I"⟩, 3), (⟨"PreferTable$Term", "pDecidesAlone", "()Z"⟩, 6), (⟨"PreferTableModel", "present", "()I"⟩, 34)]
theorem lw_r1 : ∀ q ∈ lw_privs_1, lw_okq q := List.forall_mem_cons.mpr ⟨lw_p0, List.forall_mem_cons.mpr ⟨lw_p1, List.forall_mem_cons.mpr ⟨lw_p2, List.forall_mem_cons.mpr ⟨lw_p3, List.forall_mem_cons.mpr ⟨lw_p4, List.forall_mem_cons.mpr ⟨lw_p5, List.forall_mem_cons.mpr ⟨lw_p6, List.forall_mem_cons.mpr ⟨lw_p7, List.forall_mem_cons.mpr ⟨lw_p8, List.forall_mem_cons.mpr ⟨lw_p9, List.forall_mem_cons.mpr ⟨lw_p10, List.forall_mem_cons.mpr ⟨lw_p11, List.forall_mem_cons.mpr ⟨lw_p12, List.forall_mem_cons.mpr ⟨lw_p13, List.forall_mem_cons.mpr ⟨lw_p14, List.forall_mem_cons.mpr ⟨lw_p15, fun _ h => absurd h List.not_mem_nil⟩⟩⟩⟩⟩⟩⟩⟩⟩⟩⟩⟩⟩⟩⟩⟩
theorem lw_p16 : lw_okq (⟨"PreferTableModel", "isRow", "(I)Z"⟩, 34) := ⟨⟨by decide +kernel, by decide +kernel⟩, List.mem_of_getElem? (i := 767) (by decide +kernel), List.mem_of_getElem? (i := 893) (by decide +kernel), List.mem_of_getElem? (i := 894) (by decide +kernel)⟩
theorem lw_p17 : lw_okq (⟨"PreferTableModel", "isNode", "(I)Z"⟩, 34) := ⟨⟨by decide +kernel, by decide +kernel⟩, List.mem_of_getElem? (i := 767) (by decide +kernel), List.mem_of_getElem? (i := 916) (by decide +kernel), List.mem_of_getElem? (i := 917) (by decide +kernel)⟩
theorem lw_p18 : lw_okq (⟨"PreferTableModel", "reached", "(II)I"⟩, 34) := ⟨⟨by decide +kernel, by decide +kernel⟩, List.mem_of_getElem? (i := 767) (by decide +kernel), List.mem_of_getElem? (i := 927) (by decide +kernel), List.mem_of_getElem? (i := 928) (by decide +kernel)⟩
theorem lw_p19 : lw_okq (⟨"PreferTableModel", "say", "(III)I"⟩, 34) := ⟨⟨by decide +kernel, by decide +kernel⟩, List.mem_of_getElem? (i := 767) (by decide +kernel), List.mem_of_getElem? (i := 939) (by decide +kernel), List.mem_of_getElem? (i := 940) (by decide +kernel)⟩
theorem lw_p20 : lw_okq (⟨"PreferTableModel", "ordered", "(III)I"⟩, 34) := ⟨⟨by decide +kernel, by decide +kernel⟩, List.mem_of_getElem? (i := 767) (by decide +kernel), List.mem_of_getElem? (i := 943) (by decide +kernel), List.mem_of_getElem? (i := 944) (by decide +kernel)⟩
theorem lw_p21 : lw_okq (⟨"PreferTableModel", "depth", "(II)J"⟩, 34) := ⟨⟨by decide +kernel, by decide +kernel⟩, List.mem_of_getElem? (i := 767) (by decide +kernel), List.mem_of_getElem? (i := 950) (by decide +kernel), List.mem_of_getElem? (i := 951) (by decide +kernel)⟩
theorem lw_p22 : lw_okq (⟨"PreferTableModel", "graph", "(III)I"⟩, 34) := ⟨⟨by decide +kernel, by decide +kernel⟩, List.mem_of_getElem? (i := 767) (by decide +kernel), List.mem_of_getElem? (i := 955) (by decide +kernel), List.mem_of_getElem? (i := 956) (by decide +kernel)⟩
theorem lw_p23 : lw_okq (⟨"PreferTableModel", "distance", "(II)J"⟩, 34) := ⟨⟨by decide +kernel, by decide +kernel⟩, List.mem_of_getElem? (i := 767) (by decide +kernel), List.mem_of_getElem? (i := 959) (by decide +kernel), List.mem_of_getElem? (i := 960) (by decide +kernel)⟩
theorem lw_p24 : lw_okq (⟨"PreferTableModel", "joined", "(III)I"⟩, 34) := ⟨⟨by decide +kernel, by decide +kernel⟩, List.mem_of_getElem? (i := 767) (by decide +kernel), List.mem_of_getElem? (i := 963) (by decide +kernel), List.mem_of_getElem? (i := 964) (by decide +kernel)⟩
theorem lw_p25 : lw_okq (⟨"PreferTableModel", "mark", "(III)I"⟩, 34) := ⟨⟨by decide +kernel, by decide +kernel⟩, List.mem_of_getElem? (i := 767) (by decide +kernel), List.mem_of_getElem? (i := 982) (by decide +kernel), List.mem_of_getElem? (i := 983) (by decide +kernel)⟩
theorem lw_p26 : lw_okq (⟨"PreferTableModel", "passes", "(II)Z"⟩, 34) := ⟨⟨by decide +kernel, by decide +kernel⟩, List.mem_of_getElem? (i := 767) (by decide +kernel), List.mem_of_getElem? (i := 986) (by decide +kernel), List.mem_of_getElem? (i := 987) (by decide +kernel)⟩
theorem lw_p27 : lw_okq (⟨"PreferTableModel", "answerBest", "()I"⟩, 34) := ⟨⟨by decide +kernel, by decide +kernel⟩, List.mem_of_getElem? (i := 767) (by decide +kernel), List.mem_of_getElem? (i := 993) (by decide +kernel), List.mem_of_getElem? (i := 994) (by decide +kernel)⟩
theorem lw_p28 : lw_okq (⟨"PreferTableModel", "weigh", "(I)V"⟩, 34) := ⟨⟨by decide +kernel, by decide +kernel⟩, List.mem_of_getElem? (i := 767) (by decide +kernel), List.mem_of_getElem? (i := 1005) (by decide +kernel), List.mem_of_getElem? (i := 1006) (by decide +kernel)⟩
theorem lw_p29 : lw_okq (⟨"PreferTableModel", "readNow", "(I)I"⟩, 34) := ⟨⟨by decide +kernel, by decide +kernel⟩, List.mem_of_getElem? (i := 767) (by decide +kernel), List.mem_of_getElem? (i := 1025) (by decide +kernel), List.mem_of_getElem? (i := 1026) (by decide +kernel)⟩
theorem lw_p30 : lw_okq (⟨"PreferTableModel", "reducedOrder", "(I)I"⟩, 34) := ⟨⟨by decide +kernel, by decide +kernel⟩, List.mem_of_getElem? (i := 767) (by decide +kernel), List.mem_of_getElem? (i := 1041) (by decide +kernel), List.mem_of_getElem? (i := 1042) (by decide +kernel)⟩
theorem lw_p31 : lw_okq (⟨"PreferTableModel", "place", "(IIII)I"⟩, 34) := ⟨⟨by decide +kernel, by decide +kernel⟩, List.mem_of_getElem? (i := 767) (by decide +kernel), List.mem_of_getElem? (i := 1045) (by decide +kernel), List.mem_of_getElem? (i := 1046) (by decide +kernel)⟩
def lw_privs_2 : List (MethodName × Nat) := [(⟨"PreferTableModel", "isRow", "(I)Z"⟩, 34), (⟨"PreferTableModel", "isNode", "(I)Z"⟩, 34), (⟨"PreferTableModel", "reached", "(II)I"⟩, 34), (⟨"PreferTableModel", "say", "(III)I"⟩, 34), (⟨"PreferTableModel", "ordered", "(III)I"⟩, 34), (⟨"PreferTableModel", "depth", "(II)J"⟩, 34), (⟨"PreferTableModel", "graph", "(III)I"⟩, 34), (⟨"PreferTableModel", "distance", "(II)J"⟩, 34), (⟨"PreferTableModel", "joined", "(III)I"⟩, 34), (⟨"PreferTableModel", "mark", "(III)I"⟩, 34), (⟨"PreferTableModel", "passes", "(II)Z"⟩, 34), (⟨"PreferTableModel", "answerBest", "()I"⟩, 34), (⟨"PreferTableModel", "weigh", "(I)V"⟩, 34), (⟨"PreferTableModel", "readNow", "(I)I"⟩, 34), (⟨"PreferTableModel", "reducedOrder", "(I)I"⟩, 34), (⟨"PreferTableModel", "place", "(IIII)I"⟩, 34)]
theorem lw_r2 : ∀ q ∈ lw_privs_2, lw_okq q := List.forall_mem_cons.mpr ⟨lw_p16, List.forall_mem_cons.mpr ⟨lw_p17, List.forall_mem_cons.mpr ⟨lw_p18, List.forall_mem_cons.mpr ⟨lw_p19, List.forall_mem_cons.mpr ⟨lw_p20, List.forall_mem_cons.mpr ⟨lw_p21, List.forall_mem_cons.mpr ⟨lw_p22, List.forall_mem_cons.mpr ⟨lw_p23, List.forall_mem_cons.mpr ⟨lw_p24, List.forall_mem_cons.mpr ⟨lw_p25, List.forall_mem_cons.mpr ⟨lw_p26, List.forall_mem_cons.mpr ⟨lw_p27, List.forall_mem_cons.mpr ⟨lw_p28, List.forall_mem_cons.mpr ⟨lw_p29, List.forall_mem_cons.mpr ⟨lw_p30, List.forall_mem_cons.mpr ⟨lw_p31, fun _ h => absurd h List.not_mem_nil⟩⟩⟩⟩⟩⟩⟩⟩⟩⟩⟩⟩⟩⟩⟩⟩
theorem lw_p32 : lw_okq (⟨"PreferTableModel", "reducedTerm", "(III)I"⟩, 34) := ⟨⟨by decide +kernel, by decide +kernel⟩, List.mem_of_getElem? (i := 767) (by decide +kernel), List.mem_of_getElem? (i := 1049) (by decide +kernel), List.mem_of_getElem? (i := 1050) (by decide +kernel)⟩
theorem lw_p33 : lw_okq (⟨"PreferTableModel", "dual", "(I)I"⟩, 34) := ⟨⟨by decide +kernel, by decide +kernel⟩, List.mem_of_getElem? (i := 767) (by decide +kernel), List.mem_of_getElem? (i := 1053) (by decide +kernel), List.mem_of_getElem? (i := 1054) (by decide +kernel)⟩
theorem lw_p34 : lw_okq (⟨"PreferTableModel", "write", "(I)V"⟩, 34) := ⟨⟨by decide +kernel, by decide +kernel⟩, List.mem_of_getElem? (i := 767) (by decide +kernel), List.mem_of_getElem? (i := 1057) (by decide +kernel), List.mem_of_getElem? (i := 1058) (by decide +kernel)⟩
theorem lw_p35 : lw_okq (⟨"PreferTableModel", "emit", "(I)V"⟩, 34) := ⟨⟨by decide +kernel, by decide +kernel⟩, List.mem_of_getElem? (i := 767) (by decide +kernel), List.mem_of_getElem? (i := 1061) (by decide +kernel), List.mem_of_getElem? (i := 1062) (by decide +kernel)⟩
def lw_privs_3 : List (MethodName × Nat) := [(⟨"PreferTableModel", "reducedTerm", "(III)I"⟩, 34), (⟨"PreferTableModel", "dual", "(I)I"⟩, 34), (⟨"PreferTableModel", "write", "(I)V"⟩, 34), (⟨"PreferTableModel", "emit", "(I)V"⟩, 34)]
theorem lw_r3 : ∀ q ∈ lw_privs_3, lw_okq q := List.forall_mem_cons.mpr ⟨lw_p32, List.forall_mem_cons.mpr ⟨lw_p33, List.forall_mem_cons.mpr ⟨lw_p34, List.forall_mem_cons.mpr ⟨lw_p35, fun _ h => absurd h List.not_mem_nil⟩⟩⟩⟩
def lw_privs : List (MethodName × Nat) := lw_privs_1 ++ (lw_privs_2 ++ (lw_privs_3))
def lw_tbl : List Cond := k2_sels lw_privs ++ tables_1
theorem lw_privs_ok : ∀ q ∈ lw_privs, lw_okq q := by
  show ∀ q ∈ lw_privs_1 ++ (lw_privs_2 ++ (lw_privs_3)), lw_okq q
  exact List.forall_mem_append.mpr ⟨lw_r1, List.forall_mem_append.mpr ⟨lw_r2, lw_r3⟩⟩
end
section
/-! Places in the tables; methods by name, bytes, number of locals, what they return, handlers; decode tables (written by gen_lean.py). -/
theorem ev_memS (i : Nat) {w : Cond} (h : (k2_sels lw_privs)[i]? = some w) : w ∈ lw_tbl := List.mem_append_left _ (List.mem_of_getElem? h)
theorem ev_mem (i : Nat) {w : Cond} (h : tables_1[i]? = some w) : w ∈ lw_tbl := List.mem_append_right _ (List.mem_of_getElem? h)
/-- a method: name, bytes, number of locals, what it returns, handlers -/
abbrev ev_M : Type := MethodName × ByteArray × Nat × Option FieldType × List (Nat × Nat × Nat × Nat)
abbrev ev_tab : Type := List (Nat × Instr × Nat × Nat)
abbrev ev_dall (M : ev_M) (t : ev_tab) : Prop := ∀ q ∈ t, decode M.2.1 q.1 = .ok (q.2.1, q.2.2.1) ∧ q.1 + q.2.2.1 = q.2.2.2
def m_PT_init : ev_M := (⟨"PreferTable", "<init>", "()V"⟩, prog_1_method_1_code, 2, Option.none, [])
def m_Rows_init : ev_M := (⟨"PreferTable$Rows", "<init>", "()V"⟩, prog_10_method_1_code, 1, Option.none, [])
def m_Conditions_init : ev_M := (⟨"PreferTable$Conditions", "<init>", "()V"⟩, prog_2_method_1_code, 1, Option.none, [])
def m_Contest_init : ev_M := (⟨"PreferTable$Contest", "<init>", "()V"⟩, prog_3_method_1_code, 1, Option.none, [])
def m_RowList_init : ev_M := (⟨"PreferTable$RowList", "<init>", "()V"⟩, prog_9_method_1_code, 1, Option.none, [])
def m_Question_init : ev_M := (⟨"PreferTable$Question", "<init>", "()V"⟩, prog_8_method_1_code, 1, Option.none, [])
def m_PT_change : ev_M := (⟨"PreferTable", "change", "(III)Z"⟩, prog_1_method_3_code, 5, (Option.some Jvm.ClassFile.FieldType.boolean), [])
def m_Rows_placeOf : ev_M := (⟨"PreferTable$Rows", "placeOf", "(I)I"⟩, prog_10_method_4_code, 3, (Option.some Jvm.ClassFile.FieldType.int), [])
def m_PT_isColumn : ev_M := (⟨"PreferTable", "isColumn", "(I)Z"⟩, prog_1_method_24_code, 1, (Option.some Jvm.ClassFile.FieldType.boolean), [])
def m_PT_remove : ev_M := (⟨"PreferTable", "remove", "(I)Z"⟩, prog_1_method_4_code, 3, (Option.some Jvm.ClassFile.FieldType.boolean), [])
def m_Rows_drop : ev_M := (⟨"PreferTable$Rows", "drop", "(I)V"⟩, prog_10_method_5_code, 3, Option.none, [])
def m_PT_layer : ev_M := (⟨"PreferTable", "layer", "(III)Z"⟩, prog_1_method_7_code, 6, (Option.some Jvm.ClassFile.FieldType.boolean), [])
def m_PT_isNode : ev_M := (⟨"PreferTable", "isNode", "(I)Z"⟩, prog_1_method_26_code, 2, (Option.some Jvm.ClassFile.FieldType.boolean), [])
def m_PT_isGraded : ev_M := (⟨"PreferTable", "isGraded", "(I)Z"⟩, prog_1_method_25_code, 1, (Option.some Jvm.ClassFile.FieldType.boolean), [])
def m_PT_free : ev_M := (⟨"PreferTable", "free", "()V"⟩, prog_1_method_11_code, 1, Option.none, [])
def m_Conditions_clear : ev_M := (⟨"PreferTable$Conditions", "clear", "()V"⟩, prog_2_method_2_code, 1, Option.none, [])
def m_PT_answer : ev_M := (⟨"PreferTable", "answer", "(I)I"⟩, prog_1_method_17_code, 2, (Option.some Jvm.ClassFile.FieldType.int), [])
def m_RowList_pick : ev_M := (⟨"PreferTable$RowList", "pick", "(LPreferTable$RowList;I)I"⟩, prog_9_method_6_code, 5, (Option.some Jvm.ClassFile.FieldType.int), [])
def m_RowList_has : ev_M := (⟨"PreferTable$RowList", "has", "(I)Z"⟩, prog_9_method_5_code, 3, (Option.some Jvm.ClassFile.FieldType.boolean), [])
def m_PT_saved : ev_M := (⟨"PreferTable", "saved", "(III)I"⟩, prog_1_method_20_code, 5, (Option.some Jvm.ClassFile.FieldType.int), [])
def m_PT_isSaved : ev_M := (⟨"PreferTable", "isSaved", "(I)Z"⟩, prog_1_method_28_code, 2, (Option.some Jvm.ClassFile.FieldType.boolean), [])
def m_PT_isQuestion : ev_M := (⟨"PreferTable", "isQuestion", "(I)Z"⟩, prog_1_method_27_code, 1, (Option.some Jvm.ClassFile.FieldType.boolean), [])
def m_PT_keepUp : ev_M := (⟨"PreferTable", "keepUp", "(LPreferTable$Question;)V"⟩, prog_1_method_33_code, 2, Option.none, [])
def m_Contest_hold : ev_M := (⟨"PreferTable$Contest", "hold", "(LPreferTable$Rows;LPreferTable$Node;LPreferTable$Conditions;)V"⟩, prog_3_method_2_code, 6, Option.none, [])
def m_Contest_letIn : ev_M := (⟨"PreferTable$Contest", "letIn", "(LPreferTable$Rows;LPreferTable$Conditions;)V"⟩, prog_3_method_3_code, 4, Option.none, [])
def m_Conditions_pass : ev_M := (⟨"PreferTable$Conditions", "pass", "([I)Z"⟩, prog_2_method_5_code, 3, (Option.some Jvm.ClassFile.FieldType.boolean), [])
def m_Conditions_holds : ev_M := (⟨"PreferTable$Conditions", "holds", "(III)Z"⟩, prog_2_method_6_code, 3, (Option.some Jvm.ClassFile.FieldType.boolean), [])
def m_Contest_isIn : ev_M := (⟨"PreferTable$Contest", "isIn", "(II)Z"⟩, prog_3_method_5_code, 2, (Option.some Jvm.ClassFile.FieldType.boolean), [])
def m_Order_says : ev_M := (⟨"PreferTable$Order", "says", "([I[I)I"⟩, prog_7_method_2_code, 5, (Option.some Jvm.ClassFile.FieldType.int), [])
def m_Graph_prefers : ev_M := (⟨"PreferTable$Graph", "prefers", "(II)Z"⟩, prog_4_method_2_code, 3, (Option.some Jvm.ClassFile.FieldType.boolean), [])
def m_Graph_leads : ev_M := (⟨"PreferTable$Graph", "leads", "(II)Z"⟩, prog_4_method_3_code, 3, (Option.some Jvm.ClassFile.FieldType.boolean), [])
def m_Layers_prefers : ev_M := (⟨"PreferTable$Layers", "prefers", "(II)Z"⟩, prog_5_method_2_code, 5, (Option.some Jvm.ClassFile.FieldType.boolean), [])
def m_Layers_find : ev_M := (⟨"PreferTable$Layers", "find", "(I)I"⟩, prog_5_method_3_code, 2, (Option.some Jvm.ClassFile.FieldType.int), [])
def m_ValueOrder_prefers : ev_M := (⟨"PreferTable$ValueOrder", "prefers", "(II)Z"⟩, prog_12_method_2_code, 3, (Option.some Jvm.ClassFile.FieldType.boolean), [])
def m_ValueOrder_distance : ev_M := (⟨"PreferTable$ValueOrder", "distance", "(I)J"⟩, prog_12_method_3_code, 2, (Option.some Jvm.ClassFile.FieldType.long), [])
def m_Term_says : ev_M := (⟨"PreferTable$Term", "says", "([I[I)I"⟩, prog_11_method_3_code, 5, (Option.some Jvm.ClassFile.FieldType.int), [])
def m_Term_changedOver : ev_M := (⟨"PreferTable$Term", "changedOver", "(I)I"⟩, prog_11_method_4_code, 1, (Option.some Jvm.ClassFile.FieldType.int), [])
def m_Term_paretoOf : ev_M := (⟨"PreferTable$Term", "paretoOf", "(II)I"⟩, prog_11_method_5_code, 2, (Option.some Jvm.ClassFile.FieldType.int), [])
def m_Contest_note : ev_M := (⟨"PreferTable$Contest", "note", "(III)V"⟩, prog_3_method_4_code, 4, Option.none, [])
def m_Contest_listUnbeaten : ev_M := (⟨"PreferTable$Contest", "listUnbeaten", "(LPreferTable$Rows;LPreferTable$RowList;)V"⟩, prog_3_method_7_code, 4, Option.none, [])
def m_RowList_clear : ev_M := (⟨"PreferTable$RowList", "clear", "()V"⟩, prog_9_method_2_code, 1, Option.none, [])
def m_RowList_add : ev_M := (⟨"PreferTable$RowList", "add", "(I)V"⟩, prog_9_method_3_code, 2, Option.none, [])
def m_PT_read : ev_M := (⟨"PreferTable", "read", "(I)Z"⟩, prog_1_method_21_code, 2, (Option.some Jvm.ClassFile.FieldType.boolean), [])
def m_PT_markRead : ev_M := (⟨"PreferTable", "markRead", "(LPreferTable$Question;)V"⟩, prog_1_method_34_code, 2, Option.none, [])
def m_RowList_copyFrom : ev_M := (⟨"PreferTable$RowList", "copyFrom", "(LPreferTable$RowList;)V"⟩, prog_9_method_4_code, 2, Option.none, [])
def m_Lw_row : ev_M := (⟨"PreferTableLaw", "row", "(LPreferTable;IIII[J)I"⟩, method_3_code, 7, (Option.some Jvm.ClassFile.FieldType.int), [(0, 14, 17, 13)])
def m_PT_row : ev_M := (⟨"PreferTable", "row", "(IIII)I"⟩, prog_1_method_2_code, 5, (Option.some Jvm.ClassFile.FieldType.int), [])
def m_Rows_isFull : ev_M := (⟨"PreferTable$Rows", "isFull", "()Z"⟩, prog_10_method_2_code, 1, (Option.some Jvm.ClassFile.FieldType.boolean), [])
def m_Rows_add : ev_M := (⟨"PreferTable$Rows", "add", "(IIII)I"⟩, prog_10_method_3_code, 6, (Option.some Jvm.ClassFile.FieldType.int), [])
def m_Lw_value : ev_M := (⟨"PreferTableLaw", "value", "(LPreferTable;II[J)I"⟩, method_4_code, 5, (Option.some Jvm.ClassFile.FieldType.int), [(0, 10, 13, 19)])
def m_PT_value : ev_M := (⟨"PreferTable", "value", "(II)I"⟩, prog_1_method_5_code, 4, (Option.some Jvm.ClassFile.FieldType.int), [])
def m_Lw_order : ev_M := (⟨"PreferTableLaw", "order", "(LPreferTable;IIII[J)I"⟩, method_5_code, 7, (Option.some Jvm.ClassFile.FieldType.int), [(0, 14, 17, 24), (0, 14, 21, 13)])
def m_PT_order : ev_M := (⟨"PreferTable", "order", "(IIII)I"⟩, prog_1_method_6_code, 5, (Option.some Jvm.ClassFile.FieldType.int), [])
def m_PT_newOrder : ev_M := (⟨"PreferTable", "newOrder", "(IIII)LPreferTable$Node;"⟩, prog_1_method_29_code, 5, (Option.some (Jvm.ClassFile.FieldType.object "PreferTable$Node")), [])
def m_Layers_init : ev_M := (⟨"PreferTable$Layers", "<init>", "(II)V"⟩, prog_5_method_1_code, 4, Option.none, [])
def m_Order_init : ev_M := (⟨"PreferTable$Order", "<init>", "(III)V"⟩, prog_7_method_1_code, 4, Option.none, [])
def m_Node_init : ev_M := (⟨"PreferTable$Node", "<init>", "(IIII)V"⟩, prog_6_method_1_code, 5, Option.none, [])
def m_Graph_init : ev_M := (⟨"PreferTable$Graph", "<init>", "(II)V"⟩, prog_4_method_1_code, 3, Option.none, [])
def m_ValueOrder_init : ev_M := (⟨"PreferTable$ValueOrder", "<init>", "(IIIII)V"⟩, prog_12_method_1_code, 6, Option.none, [])
def m_PT_addNode : ev_M := (⟨"PreferTable", "addNode", "(LPreferTable$Node;)I"⟩, prog_1_method_30_code, 2, (Option.some Jvm.ClassFile.FieldType.int), [])
def m_Lw_edge : ev_M := (⟨"PreferTableLaw", "edge", "(LPreferTable;III[J)I"⟩, method_6_code, 6, (Option.some Jvm.ClassFile.FieldType.int), [(0, 19, 22, 24), (0, 19, 26, 13)])
def m_PT_edge : ev_M := (⟨"PreferTable", "edge", "(III)Z"⟩, prog_1_method_8_code, 6, (Option.some Jvm.ClassFile.FieldType.boolean), [])
def m_PT_addEdge : ev_M := (⟨"PreferTable", "addEdge", "(LPreferTable$Graph;II)Z"⟩, prog_1_method_31_code, 4, (Option.some Jvm.ClassFile.FieldType.boolean), [])
def m_Graph_hasEdge : ev_M := (⟨"PreferTable$Graph", "hasEdge", "(II)Z"⟩, prog_4_method_4_code, 3, (Option.some Jvm.ClassFile.FieldType.boolean), [])
def m_Graph_join : ev_M := (⟨"PreferTable$Graph", "join", "(II)V"⟩, prog_4_method_5_code, 5, Option.none, [])
def m_Lw_term : ev_M := (⟨"PreferTableLaw", "term", "(LPreferTable;III[J)I"⟩, method_7_code, 6, (Option.some Jvm.ClassFile.FieldType.int), [(0, 12, 15, 24), (0, 12, 19, 13)])
def m_PT_term : ev_M := (⟨"PreferTable", "term", "(III)I"⟩, prog_1_method_9_code, 6, (Option.some Jvm.ClassFile.FieldType.int), [])
def m_Term_sizeOf : ev_M := (⟨"PreferTable$Term", "sizeOf", "(ILPreferTable$Node;LPreferTable$Node;)I"⟩, prog_11_method_2_code, 3, (Option.some Jvm.ClassFile.FieldType.int), [])
def m_Term_init : ev_M := (⟨"PreferTable$Term", "<init>", "(IILPreferTable$Node;LPreferTable$Node;)V"⟩, prog_11_method_1_code, 5, Option.none, [])
def m_Lw_condition : ev_M := (⟨"PreferTableLaw", "condition", "(LPreferTable;III[J)I"⟩, method_8_code, 6, (Option.some Jvm.ClassFile.FieldType.int), [(0, 12, 15, 24), (0, 12, 19, 13)])
def m_PT_condition : ev_M := (⟨"PreferTable", "condition", "(III)I"⟩, prog_1_method_10_code, 4, (Option.some Jvm.ClassFile.FieldType.int), [])
def m_Conditions_add : ev_M := (⟨"PreferTable$Conditions", "add", "(III)V"⟩, prog_2_method_3_code, 4, Option.none, [])
def m_Lw_compare : ev_M := (⟨"PreferTableLaw", "compare", "(LPreferTable;III[J)I"⟩, method_9_code, 6, (Option.some Jvm.ClassFile.FieldType.int), [(0, 12, 15, 19)])
def m_PT_compare : ev_M := (⟨"PreferTable", "compare", "(III)I"⟩, prog_1_method_12_code, 6, (Option.some Jvm.ClassFile.FieldType.int), [])
def m_Lw_best : ev_M := (⟨"PreferTableLaw", "best", "(LPreferTable;I[J)I"⟩, method_10_code, 4, (Option.some Jvm.ClassFile.FieldType.int), [(0, 9, 12, 19)])
def m_PT_best : ev_M := (⟨"PreferTable", "best", "(I)I"⟩, prog_1_method_13_code, 2, (Option.some Jvm.ClassFile.FieldType.int), [])
def m_Lw_grouped : ev_M := (⟨"PreferTableLaw", "grouped", "(LPreferTable;II[J)I"⟩, method_11_code, 5, (Option.some Jvm.ClassFile.FieldType.int), [(0, 10, 13, 19)])
def m_PT_grouped : ev_M := (⟨"PreferTable", "grouped", "(II)I"⟩, prog_1_method_14_code, 3, (Option.some Jvm.ClassFile.FieldType.int), [])
def m_Contest_forgetOtherGroups : ev_M := (⟨"PreferTable$Contest", "forgetOtherGroups", "(LPreferTable$Rows;I)V"⟩, prog_3_method_6_code, 5, Option.none, [])
def m_Lw_top : ev_M := (⟨"PreferTableLaw", "top", "(LPreferTable;II[J)I"⟩, method_12_code, 5, (Option.some Jvm.ClassFile.FieldType.int), [(0, 10, 13, 19), (0, 10, 17, 24)])
def m_PT_top : ev_M := (⟨"PreferTable", "top", "(II)I"⟩, prog_1_method_15_code, 3, (Option.some Jvm.ClassFile.FieldType.int), [])
def m_Contest_rank : ev_M := (⟨"PreferTable$Contest", "rank", "()V"⟩, prog_3_method_8_code, 4, Option.none, [])
def m_Contest_setLevel : ev_M := (⟨"PreferTable$Contest", "setLevel", "(II)V"⟩, prog_3_method_10_code, 4, Option.none, [])
def m_Contest_unbeatenAmong : ev_M := (⟨"PreferTable$Contest", "unbeatenAmong", "(I)I"⟩, prog_3_method_9_code, 4, (Option.some Jvm.ClassFile.FieldType.int), [])
def m_Contest_listFirst : ev_M := (⟨"PreferTable$Contest", "listFirst", "(LPreferTable$Rows;ILPreferTable$RowList;)V"⟩, prog_3_method_11_code, 6, Option.none, [])
def m_Lw_level : ev_M := (⟨"PreferTableLaw", "level", "(LPreferTable;II[J)I"⟩, method_13_code, 5, (Option.some Jvm.ClassFile.FieldType.int), [(0, 10, 13, 19)])
def m_PT_level : ev_M := (⟨"PreferTable", "level", "(II)I"⟩, prog_1_method_16_code, 4, (Option.some Jvm.ClassFile.FieldType.int), [])
def m_Lw_reason : ev_M := (⟨"PreferTableLaw", "reason", "(LPreferTable;IIII[J)I"⟩, method_14_code, 7, (Option.some Jvm.ClassFile.FieldType.int), [(0, 14, 17, 19)])
def m_PT_reason : ev_M := (⟨"PreferTable", "reason", "(IIII)I"⟩, prog_1_method_18_code, 7, (Option.some Jvm.ClassFile.FieldType.int), [])
def m_PT_walkToDecider : ev_M := (⟨"PreferTable", "walkToDecider", "(LPreferTable$Node;[I[II)I"⟩, prog_1_method_32_code, 10, (Option.some Jvm.ClassFile.FieldType.int), [])
def m_Term_partThatDecides : ev_M := (⟨"PreferTable$Term", "partThatDecides", "([I[I)LPreferTable$Node;"⟩, prog_11_method_6_code, 3, (Option.some (Jvm.ClassFile.FieldType.object "PreferTable$Node")), [])
def m_Lw_save : ev_M := (⟨"PreferTableLaw", "save", "(LPreferTable;II[J)I"⟩, method_15_code, 5, (Option.some Jvm.ClassFile.FieldType.int), [(0, 10, 13, 19)])
def m_PT_save : ev_M := (⟨"PreferTable", "save", "(II)I"⟩, prog_1_method_19_code, 4, (Option.some Jvm.ClassFile.FieldType.int), [])
def m_Question_ask : ev_M := (⟨"PreferTable$Question", "ask", "(LPreferTable$Node;LPreferTable$Conditions;)V"⟩, prog_8_method_2_code, 3, Option.none, [])
def m_Conditions_copyFrom : ev_M := (⟨"PreferTable$Conditions", "copyFrom", "(LPreferTable$Conditions;)V"⟩, prog_2_method_4_code, 3, Option.none, [])
def m_Lw_reduce : ev_M := (⟨"PreferTableLaw", "reduce", "(LPreferTable;I[J)I"⟩, method_16_code, 4, (Option.some Jvm.ClassFile.FieldType.int), [(0, 9, 12, 19)])
def m_PT_reduce : ev_M := (⟨"PreferTable", "reduce", "(I)I"⟩, prog_1_method_22_code, 2, (Option.some Jvm.ClassFile.FieldType.int), [])
def m_Order_putReduced : ev_M := (⟨"PreferTable$Order", "putReduced", "([II)I"⟩, prog_7_method_4_code, 3, (Option.some Jvm.ClassFile.FieldType.int), [])
def m_ValueOrder_putOwn : ev_M := (⟨"PreferTable$ValueOrder", "putOwn", "([II)I"⟩, prog_12_method_4_code, 3, (Option.some Jvm.ClassFile.FieldType.int), [])
def m_Order_putOwn : ev_M := (⟨"PreferTable$Order", "putOwn", "([II)I"⟩, prog_7_method_5_code, 3, (Option.some Jvm.ClassFile.FieldType.int), [])
def m_Term_putReduced : ev_M := (⟨"PreferTable$Term", "putReduced", "([II)I"⟩, prog_11_method_7_code, 5, (Option.some Jvm.ClassFile.FieldType.int), [])
def m_Term_reduceDual : ev_M := (⟨"PreferTable$Term", "reduceDual", "([III)I"⟩, prog_11_method_8_code, 4, (Option.some Jvm.ClassFile.FieldType.int), [])
def m_Term_moveBack : ev_M := (⟨"PreferTable$Term", "moveBack", "([IIII)I"⟩, prog_11_method_12_code, 4, (Option.some Jvm.ClassFile.FieldType.int), [])
def m_Term_areAlike : ev_M := (⟨"PreferTable$Term", "areAlike", "([IIII)Z"⟩, prog_11_method_9_code, 6, (Option.some Jvm.ClassFile.FieldType.boolean), [])
def m_Term_pDecidesAlone : ev_M := (⟨"PreferTable$Term", "pDecidesAlone", "()Z"⟩, prog_11_method_10_code, 1, (Option.some Jvm.ClassFile.FieldType.boolean), [])
def m_Term_pullDualOut : ev_M := (⟨"PreferTable$Term", "pullDualOut", "([IIII)I"⟩, prog_11_method_11_code, 4, (Option.some Jvm.ClassFile.FieldType.int), [])
def m_Lw_form : ev_M := (⟨"PreferTableLaw", "form", "(LPreferTable;I[J)I"⟩, method_17_code, 4, (Option.some Jvm.ClassFile.FieldType.int), [(0, 9, 12, 19)])
def m_PT_form : ev_M := (⟨"PreferTable", "form", "(I)I"⟩, prog_1_method_23_code, 2, (Option.some Jvm.ClassFile.FieldType.int), [])
def m_Md_init : ev_M := (⟨"PreferTableModel", "<init>", "()V"⟩, prog_14_method_1_code, 1, Option.none, [])
def m_Md_thrown : ev_M := (⟨"PreferTableModel", "thrown", "()I"⟩, prog_14_method_2_code, 1, (Option.some Jvm.ClassFile.FieldType.int), [])
def m_Md_row : ev_M := (⟨"PreferTableModel", "row", "(IIII)I"⟩, prog_14_method_7_code, 5, (Option.some Jvm.ClassFile.FieldType.int), [])
def m_Md_present : ev_M := (⟨"PreferTableModel", "present", "()I"⟩, prog_14_method_6_code, 3, (Option.some Jvm.ClassFile.FieldType.int), [])
def m_Md_change : ev_M := (⟨"PreferTableModel", "change", "(III)Z"⟩, prog_14_method_8_code, 4, (Option.some Jvm.ClassFile.FieldType.boolean), [])
def m_Md_isRow : ev_M := (⟨"PreferTableModel", "isRow", "(I)Z"⟩, prog_14_method_3_code, 2, (Option.some Jvm.ClassFile.FieldType.boolean), [])
def m_Md_isColumn : ev_M := (⟨"PreferTableModel", "isColumn", "(I)Z"⟩, prog_14_method_4_code, 1, (Option.some Jvm.ClassFile.FieldType.boolean), [])
def m_Md_remove : ev_M := (⟨"PreferTableModel", "remove", "(I)Z"⟩, prog_14_method_9_code, 2, (Option.some Jvm.ClassFile.FieldType.boolean), [])
def m_Md_value : ev_M := (⟨"PreferTableModel", "value", "(II)I"⟩, prog_14_method_10_code, 3, (Option.some Jvm.ClassFile.FieldType.int), [])
def m_Md_order : ev_M := (⟨"PreferTableModel", "order", "(IIII)I"⟩, prog_14_method_11_code, 6, (Option.some Jvm.ClassFile.FieldType.int), [])
def m_Md_layer : ev_M := (⟨"PreferTableModel", "layer", "(III)Z"⟩, prog_14_method_13_code, 4, (Option.some Jvm.ClassFile.FieldType.boolean), [])
def m_Md_isNode : ev_M := (⟨"PreferTableModel", "isNode", "(I)Z"⟩, prog_14_method_5_code, 2, (Option.some Jvm.ClassFile.FieldType.boolean), [])
def m_Md_isPlain : ev_M := (⟨"PreferTableModel", "isPlain", "(I)Z"⟩, prog_14_method_12_code, 1, (Option.some Jvm.ClassFile.FieldType.boolean), [])
def m_Md_edge : ev_M := (⟨"PreferTableModel", "edge", "(III)Z"⟩, prog_14_method_15_code, 4, (Option.some Jvm.ClassFile.FieldType.boolean), [])
def m_Md_reached : ev_M := (⟨"PreferTableModel", "reached", "(II)I"⟩, prog_14_method_14_code, 6, (Option.some Jvm.ClassFile.FieldType.int), [])
def m_Md_term : ev_M := (⟨"PreferTableModel", "term", "(III)I"⟩, prog_14_method_16_code, 5, (Option.some Jvm.ClassFile.FieldType.int), [])
def m_Md_compare : ev_M := (⟨"PreferTableModel", "compare", "(III)I"⟩, prog_14_method_25_code, 4, (Option.some Jvm.ClassFile.FieldType.int), [])
def m_Md_say : ev_M := (⟨"PreferTableModel", "say", "(III)I"⟩, prog_14_method_24_code, 5, (Option.some Jvm.ClassFile.FieldType.int), [])
def m_Md_ordered : ev_M := (⟨"PreferTableModel", "ordered", "(III)I"⟩, prog_14_method_21_code, 4, (Option.some Jvm.ClassFile.FieldType.int), [])
def m_Md_byLess : ev_M := (⟨"PreferTableModel", "byLess", "(JJ)I"⟩, prog_14_method_17_code, 4, (Option.some Jvm.ClassFile.FieldType.int), [])
def m_Md_depth : ev_M := (⟨"PreferTableModel", "depth", "(II)J"⟩, prog_14_method_20_code, 4, (Option.some Jvm.ClassFile.FieldType.long), [])
def m_Md_graph : ev_M := (⟨"PreferTableModel", "graph", "(III)I"⟩, prog_14_method_19_code, 4, (Option.some Jvm.ClassFile.FieldType.int), [])
def m_Md_distance : ev_M := (⟨"PreferTableModel", "distance", "(II)J"⟩, prog_14_method_18_code, 7, (Option.some Jvm.ClassFile.FieldType.long), [])
def m_Md_joined : ev_M := (⟨"PreferTableModel", "joined", "(III)I"⟩, prog_14_method_23_code, 5, (Option.some Jvm.ClassFile.FieldType.int), [])
def m_Md_pareto : ev_M := (⟨"PreferTableModel", "pareto", "(II)I"⟩, prog_14_method_22_code, 2, (Option.some Jvm.ClassFile.FieldType.int), [])
def m_Md_condition : ev_M := (⟨"PreferTableModel", "condition", "(III)I"⟩, prog_14_method_26_code, 5, (Option.some Jvm.ClassFile.FieldType.int), [])
def m_Md_free : ev_M := (⟨"PreferTableModel", "free", "()V"⟩, prog_14_method_27_code, 1, Option.none, [])
def m_Md_best : ev_M := (⟨"PreferTableModel", "best", "(I)I"⟩, prog_14_method_32_code, 3, (Option.some Jvm.ClassFile.FieldType.int), [])
def m_Md_mark : ev_M := (⟨"PreferTableModel", "mark", "(III)I"⟩, prog_14_method_30_code, 8, (Option.some Jvm.ClassFile.FieldType.int), [])
def m_Md_passes : ev_M := (⟨"PreferTableModel", "passes", "(II)Z"⟩, prog_14_method_29_code, 5, (Option.some Jvm.ClassFile.FieldType.boolean), [])
def m_Md_holds : ev_M := (⟨"PreferTableModel", "holds", "(III)Z"⟩, prog_14_method_28_code, 3, (Option.some Jvm.ClassFile.FieldType.boolean), [])
def m_Md_answerBest : ev_M := (⟨"PreferTableModel", "answerBest", "()I"⟩, prog_14_method_31_code, 2, (Option.some Jvm.ClassFile.FieldType.int), [])
def m_Md_grouped : ev_M := (⟨"PreferTableModel", "grouped", "(II)I"⟩, prog_14_method_33_code, 4, (Option.some Jvm.ClassFile.FieldType.int), [])
def m_Md_top : ev_M := (⟨"PreferTableModel", "top", "(II)I"⟩, prog_14_method_35_code, 5, (Option.some Jvm.ClassFile.FieldType.int), [])
def m_Md_weigh : ev_M := (⟨"PreferTableModel", "weigh", "(I)V"⟩, prog_14_method_34_code, 6, Option.none, [])
def m_Md_level : ev_M := (⟨"PreferTableModel", "level", "(II)I"⟩, prog_14_method_36_code, 3, (Option.some Jvm.ClassFile.FieldType.int), [])
def m_Md_answer : ev_M := (⟨"PreferTableModel", "answer", "(I)I"⟩, prog_14_method_37_code, 2, (Option.some Jvm.ClassFile.FieldType.int), [])
def m_Md_reason : ev_M := (⟨"PreferTableModel", "reason", "(IIII)I"⟩, prog_14_method_38_code, 12, (Option.some Jvm.ClassFile.FieldType.int), [])
def m_Md_save : ev_M := (⟨"PreferTableModel", "save", "(II)I"⟩, prog_14_method_40_code, 4, (Option.some Jvm.ClassFile.FieldType.int), [])
def m_Md_readNow : ev_M := (⟨"PreferTableModel", "readNow", "(I)I"⟩, prog_14_method_39_code, 4, (Option.some Jvm.ClassFile.FieldType.int), [])
def m_Md_saved : ev_M := (⟨"PreferTableModel", "saved", "(III)I"⟩, prog_14_method_41_code, 9, (Option.some Jvm.ClassFile.FieldType.int), [])
def m_Md_read : ev_M := (⟨"PreferTableModel", "read", "(I)Z"⟩, prog_14_method_42_code, 3, (Option.some Jvm.ClassFile.FieldType.boolean), [])
def m_Md_reduce : ev_M := (⟨"PreferTableModel", "reduce", "(I)I"⟩, prog_14_method_49_code, 3, (Option.some Jvm.ClassFile.FieldType.int), [])
def m_Md_reducedOrder : ev_M := (⟨"PreferTableModel", "reducedOrder", "(I)I"⟩, prog_14_method_44_code, 4, (Option.some Jvm.ClassFile.FieldType.int), [])
def m_Md_place : ev_M := (⟨"PreferTableModel", "place", "(IIII)I"⟩, prog_14_method_43_code, 6, (Option.some Jvm.ClassFile.FieldType.int), [])
def m_Md_reducedTerm : ev_M := (⟨"PreferTableModel", "reducedTerm", "(III)I"⟩, prog_14_method_46_code, 5, (Option.some Jvm.ClassFile.FieldType.int), [])
def m_Md_dual : ev_M := (⟨"PreferTableModel", "dual", "(I)I"⟩, prog_14_method_45_code, 3, (Option.some Jvm.ClassFile.FieldType.int), [])
def m_Md_write : ev_M := (⟨"PreferTableModel", "write", "(I)V"⟩, prog_14_method_48_code, 5, Option.none, [])
def m_Md_emit : ev_M := (⟨"PreferTableModel", "emit", "(I)V"⟩, prog_14_method_47_code, 2, Option.none, [])
def m_Md_form : ev_M := (⟨"PreferTableModel", "form", "(I)I"⟩, prog_14_method_50_code, 2, (Option.some Jvm.ClassFile.FieldType.int), [])
def m_Lw_law : ev_M := (⟨"PreferTableLaw", "law", "([I)Z"⟩, code, 7, (Option.some Jvm.ClassFile.FieldType.boolean), [])
theorem bi_6 : (Int8.ofInt 6).toInt32 = nI 6 := by decide +kernel
theorem bi_7 : (Int8.ofInt 7).toInt32 = nI 7 := by decide +kernel
theorem bi_9 : (Int8.ofInt 9).toInt32 = nI 9 := by decide +kernel
theorem bi_10 : (Int8.ofInt 10).toInt32 = nI 10 := by decide +kernel
theorem bi_16 : (Int8.ofInt 16).toInt32 = nI 16 := by decide +kernel
theorem bi_20 : (Int8.ofInt 20).toInt32 = nI 20 := by decide +kernel
theorem bi_24 : (Int8.ofInt 24).toInt32 = nI 24 := by decide +kernel
theorem bi_25 : (Int8.ofInt 25).toInt32 = nI 25 := by decide +kernel
theorem bi_31 : (Int8.ofInt 31).toInt32 = nI 31 := by decide +kernel
theorem bi_40 : (Int8.ofInt 40).toInt32 = nI 40 := by decide +kernel
theorem bi_100 : (Int8.ofInt 100).toInt32 = nI 100 := by decide +kernel
theorem bi_119 : (Int8.ofInt 119).toInt32 = nI 119 := by decide +kernel
theorem bi_120 : (Int8.ofInt 120).toInt32 = nI 120 := by decide +kernel
theorem si_160 : (Int16.ofInt 160).toInt32 = nI 160 := by decide +kernel
theorem si_200 : (Int16.ofInt 200).toInt32 = nI 200 := by decide +kernel
theorem si_240 : (Int16.ofInt 240).toInt32 = nI 240 := by decide +kernel
theorem si_480 : (Int16.ofInt 480).toInt32 = nI 480 := by decide +kernel
end
section
/-! Words, by their places in the Statement's table (written by gen_lean.py). -/
theorem wd_0 : Cond.initialized "PreferTableLaw" ∈ lw_tbl := ev_mem 0 (by decide +kernel)
theorem wd_1 : Cond.initialized "PreferTable" ∈ lw_tbl := ev_mem 1 (by decide +kernel)
theorem wd_2 : Cond.initialized "PreferTable$Rows" ∈ lw_tbl := ev_mem 2 (by decide +kernel)
theorem wd_3 : Cond.initialized "PreferTable$Conditions" ∈ lw_tbl := ev_mem 3 (by decide +kernel)
theorem wd_4 : Cond.initialized "PreferTable$Contest" ∈ lw_tbl := ev_mem 4 (by decide +kernel)
theorem wd_5 : Cond.initialized "PreferTable$RowList" ∈ lw_tbl := ev_mem 5 (by decide +kernel)
theorem wd_6 : Cond.initialized "PreferTable$Question" ∈ lw_tbl := ev_mem 6 (by decide +kernel)
theorem wd_7 : Cond.initialized "PreferTableModel" ∈ lw_tbl := ev_mem 7 (by decide +kernel)
theorem wd_11 : Cond.initialized "java/lang/IllegalStateException" ∈ lw_tbl := ev_mem 11 (by decide +kernel)
theorem wd_12 : Cond.initialized "java/lang/System" ∈ lw_tbl := ev_mem 12 (by decide +kernel)
theorem wd_13 : Cond.initialized "java/lang/IndexOutOfBoundsException" ∈ lw_tbl := ev_mem 13 (by decide +kernel)
theorem wd_14 : Cond.initialized "java/lang/IllegalArgumentException" ∈ lw_tbl := ev_mem 14 (by decide +kernel)
theorem wd_17 : Cond.initialized "PreferTable$Layers" ∈ lw_tbl := ev_mem 17 (by decide +kernel)
theorem wd_18 : Cond.initialized "PreferTable$Graph" ∈ lw_tbl := ev_mem 18 (by decide +kernel)
theorem wd_19 : Cond.initialized "PreferTable$ValueOrder" ∈ lw_tbl := ev_mem 19 (by decide +kernel)
theorem wd_20 : Cond.initialized "PreferTable$Term" ∈ lw_tbl := ev_mem 20 (by decide +kernel)
theorem wd_21 : Cond.classLink "PreferTableLaw" 8 "PreferTable" ∈ lw_tbl := ev_mem 21 (by decide +kernel)
theorem wd_22 : Cond.instantiable "PreferTable" 11 ∈ lw_tbl := ev_mem 22 (by decide +kernel)
theorem wd_23 : Cond.methodLink "PreferTableLaw" 65 ⟨"PreferTable", "<init>", "()V"⟩ ∈ lw_tbl := ev_mem 23 (by decide +kernel)
theorem wd_24 : Cond.instanceMethod ⟨"PreferTable", "<init>", "()V"⟩ ∈ lw_tbl := ev_mem 24 (by decide +kernel)
theorem wd_25 : Cond.code ⟨"PreferTable", "<init>", "()V"⟩ prog_1_method_1_code 2 Option.none ∈ lw_tbl := ev_mem 25 (by decide +kernel)
theorem wd_26 : Cond.methodLink "PreferTable" 3 ⟨"java/lang/Object", "<init>", "()V"⟩ ∈ lw_tbl := ev_mem 26 (by decide +kernel)
theorem wd_27 : Cond.instanceMethod ⟨"java/lang/Object", "<init>", "()V"⟩ ∈ lw_tbl := ev_mem 27 (by decide +kernel)
theorem wd_28 : Cond.code ⟨"java/lang/Object", "<init>", "()V"⟩ object_method_1_code 1 Option.none ∈ lw_tbl := ev_mem 28 (by decide +kernel)
theorem wd_29 : Cond.classLink "PreferTable" 9 "PreferTable$Rows" ∈ lw_tbl := ev_mem 29 (by decide +kernel)
theorem wd_30 : Cond.instantiable "PreferTable$Rows" 4 ∈ lw_tbl := ev_mem 30 (by decide +kernel)
theorem wd_31 : Cond.methodLinkNest "PreferTable" 11 ⟨"PreferTable$Rows", "<init>", "()V"⟩ "PreferTable" ∈ lw_tbl := ev_mem 31 (by decide +kernel)
theorem wd_32 : Cond.instanceMethod ⟨"PreferTable$Rows", "<init>", "()V"⟩ ∈ lw_tbl := ev_mem 32 (by decide +kernel)
theorem wd_33 : Cond.code ⟨"PreferTable$Rows", "<init>", "()V"⟩ prog_10_method_1_code 1 Option.none ∈ lw_tbl := ev_mem 33 (by decide +kernel)
theorem wd_34 : Cond.methodLink "PreferTable$Rows" 3 ⟨"java/lang/Object", "<init>", "()V"⟩ ∈ lw_tbl := ev_mem 34 (by decide +kernel)
theorem wd_35 : Cond.classLink "PreferTable$Rows" 15 "[[I" ∈ lw_tbl := ev_mem 35 (by decide +kernel)
theorem wd_37 : Cond.fieldLink "PreferTable$Rows" 9 "PreferTable$Rows" "numbers" "[I" ∈ lw_tbl := ev_mem 37 (by decide +kernel)
theorem wd_38 : Cond.fieldLink "PreferTable$Contest" 60 "PreferTable$Rows" "numbers" "[I" ∈ lw_tbl := ev_mem 38 (by decide +kernel)
theorem wd_39 : Cond.fieldLink "PreferTable$Rows" 17 "PreferTable$Rows" "values" "[[I" ∈ lw_tbl := ev_mem 39 (by decide +kernel)
theorem wd_40 : Cond.fieldLink "PreferTable$Contest" 35 "PreferTable$Rows" "values" "[[I" ∈ lw_tbl := ev_mem 40 (by decide +kernel)
theorem wd_41 : Cond.fieldLink "PreferTable" 90 "PreferTable$Rows" "values" "[[I" ∈ lw_tbl := ev_mem 41 (by decide +kernel)
theorem wd_42 : Cond.fieldLink "PreferTable$Rows" 20 "PreferTable$Rows" "count" "I" ∈ lw_tbl := ev_mem 42 (by decide +kernel)
theorem wd_43 : Cond.fieldLink "PreferTable$Contest" 26 "PreferTable$Rows" "count" "I" ∈ lw_tbl := ev_mem 43 (by decide +kernel)
theorem wd_44 : Cond.fieldLink "PreferTable$Rows" 24 "PreferTable$Rows" "made" "I" ∈ lw_tbl := ev_mem 44 (by decide +kernel)
theorem wd_55 : Cond.classLink "PreferTable" 16 "PreferTable$Node" ∈ lw_tbl := ev_mem 55 (by decide +kernel)
theorem wd_57 : Cond.classLink "PreferTable" 26 "PreferTable$Conditions" ∈ lw_tbl := ev_mem 57 (by decide +kernel)
theorem wd_58 : Cond.instantiable "PreferTable$Conditions" 4 ∈ lw_tbl := ev_mem 58 (by decide +kernel)
theorem wd_59 : Cond.methodLinkNest "PreferTable" 28 ⟨"PreferTable$Conditions", "<init>", "()V"⟩ "PreferTable" ∈ lw_tbl := ev_mem 59 (by decide +kernel)
theorem wd_60 : Cond.instanceMethod ⟨"PreferTable$Conditions", "<init>", "()V"⟩ ∈ lw_tbl := ev_mem 60 (by decide +kernel)
theorem wd_61 : Cond.code ⟨"PreferTable$Conditions", "<init>", "()V"⟩ prog_2_method_1_code 1 Option.none ∈ lw_tbl := ev_mem 61 (by decide +kernel)
theorem wd_62 : Cond.methodLink "PreferTable$Conditions" 3 ⟨"java/lang/Object", "<init>", "()V"⟩ ∈ lw_tbl := ev_mem 62 (by decide +kernel)
theorem wd_63 : Cond.fieldLink "PreferTable$Conditions" 9 "PreferTable$Conditions" "columns" "[I" ∈ lw_tbl := ev_mem 63 (by decide +kernel)
theorem wd_64 : Cond.fieldLink "PreferTable$Conditions" 15 "PreferTable$Conditions" "operations" "[I" ∈ lw_tbl := ev_mem 64 (by decide +kernel)
theorem wd_65 : Cond.fieldLink "PreferTable$Conditions" 18 "PreferTable$Conditions" "bounds" "[I" ∈ lw_tbl := ev_mem 65 (by decide +kernel)
theorem wd_66 : Cond.fieldLink "PreferTable$Conditions" 21 "PreferTable$Conditions" "count" "I" ∈ lw_tbl := ev_mem 66 (by decide +kernel)
theorem wd_67 : Cond.fieldLink "PreferTable" 154 "PreferTable$Conditions" "count" "I" ∈ lw_tbl := ev_mem 67 (by decide +kernel)
theorem wd_77 : Cond.classLink "PreferTable" 33 "PreferTable$Contest" ∈ lw_tbl := ev_mem 77 (by decide +kernel)
theorem wd_78 : Cond.instantiable "PreferTable$Contest" 3 ∈ lw_tbl := ev_mem 78 (by decide +kernel)
theorem wd_79 : Cond.methodLinkNest "PreferTable" 35 ⟨"PreferTable$Contest", "<init>", "()V"⟩ "PreferTable" ∈ lw_tbl := ev_mem 79 (by decide +kernel)
theorem wd_80 : Cond.instanceMethod ⟨"PreferTable$Contest", "<init>", "()V"⟩ ∈ lw_tbl := ev_mem 80 (by decide +kernel)
theorem wd_81 : Cond.code ⟨"PreferTable$Contest", "<init>", "()V"⟩ prog_3_method_1_code 1 Option.none ∈ lw_tbl := ev_mem 81 (by decide +kernel)
theorem wd_82 : Cond.methodLink "PreferTable$Contest" 3 ⟨"java/lang/Object", "<init>", "()V"⟩ ∈ lw_tbl := ev_mem 82 (by decide +kernel)
theorem wd_83 : Cond.fieldLink "PreferTable$Contest" 9 "PreferTable$Contest" "beaters" "[I" ∈ lw_tbl := ev_mem 83 (by decide +kernel)
theorem wd_84 : Cond.fieldLink "PreferTable$Contest" 15 "PreferTable$Contest" "levels" "[I" ∈ lw_tbl := ev_mem 84 (by decide +kernel)
theorem wd_85 : Cond.fieldLink "PreferTable" 197 "PreferTable$Contest" "levels" "[I" ∈ lw_tbl := ev_mem 85 (by decide +kernel)
theorem wd_86 : Cond.fieldLink "PreferTable$Contest" 18 "PreferTable$Contest" "passing" "I" ∈ lw_tbl := ev_mem 86 (by decide +kernel)
theorem wd_94 : Cond.classLink "PreferTable" 40 "PreferTable$RowList" ∈ lw_tbl := ev_mem 94 (by decide +kernel)
theorem wd_95 : Cond.instantiable "PreferTable$RowList" 2 ∈ lw_tbl := ev_mem 95 (by decide +kernel)
theorem wd_96 : Cond.methodLinkNest "PreferTable" 42 ⟨"PreferTable$RowList", "<init>", "()V"⟩ "PreferTable" ∈ lw_tbl := ev_mem 96 (by decide +kernel)
theorem wd_97 : Cond.instanceMethod ⟨"PreferTable$RowList", "<init>", "()V"⟩ ∈ lw_tbl := ev_mem 97 (by decide +kernel)
theorem wd_98 : Cond.code ⟨"PreferTable$RowList", "<init>", "()V"⟩ prog_9_method_1_code 1 Option.none ∈ lw_tbl := ev_mem 98 (by decide +kernel)
theorem wd_99 : Cond.methodLink "PreferTable$RowList" 3 ⟨"java/lang/Object", "<init>", "()V"⟩ ∈ lw_tbl := ev_mem 99 (by decide +kernel)
theorem wd_100 : Cond.fieldLink "PreferTable$RowList" 9 "PreferTable$RowList" "numbers" "[I" ∈ lw_tbl := ev_mem 100 (by decide +kernel)
theorem wd_101 : Cond.fieldLink "PreferTable$RowList" 15 "PreferTable$RowList" "count" "I" ∈ lw_tbl := ev_mem 101 (by decide +kernel)
theorem wd_102 : Cond.fieldLink "PreferTable$Contest" 75 "PreferTable$RowList" "count" "I" ∈ lw_tbl := ev_mem 102 (by decide +kernel)
theorem wd_103 : Cond.fieldLink "PreferTable" 181 "PreferTable$RowList" "count" "I" ∈ lw_tbl := ev_mem 103 (by decide +kernel)
theorem wd_109 : Cond.classLink "PreferTable" 50 "PreferTable$Question" ∈ lw_tbl := ev_mem 109 (by decide +kernel)
theorem wd_111 : Cond.instantiable "PreferTable$Question" 5 ∈ lw_tbl := ev_mem 111 (by decide +kernel)
theorem wd_112 : Cond.methodLinkNest "PreferTable" 66 ⟨"PreferTable$Question", "<init>", "()V"⟩ "PreferTable" ∈ lw_tbl := ev_mem 112 (by decide +kernel)
theorem wd_113 : Cond.instanceMethod ⟨"PreferTable$Question", "<init>", "()V"⟩ ∈ lw_tbl := ev_mem 113 (by decide +kernel)
theorem wd_114 : Cond.code ⟨"PreferTable$Question", "<init>", "()V"⟩ prog_8_method_1_code 1 Option.none ∈ lw_tbl := ev_mem 114 (by decide +kernel)
theorem wd_115 : Cond.methodLink "PreferTable$Question" 3 ⟨"java/lang/Object", "<init>", "()V"⟩ ∈ lw_tbl := ev_mem 115 (by decide +kernel)
theorem wd_116 : Cond.classLink "PreferTable$Question" 15 "PreferTable$Conditions" ∈ lw_tbl := ev_mem 116 (by decide +kernel)
theorem wd_117 : Cond.methodLinkNest "PreferTable$Question" 17 ⟨"PreferTable$Conditions", "<init>", "()V"⟩ "PreferTable" ∈ lw_tbl := ev_mem 117 (by decide +kernel)
theorem wd_118 : Cond.classLink "PreferTable$Question" 22 "PreferTable$RowList" ∈ lw_tbl := ev_mem 118 (by decide +kernel)
theorem wd_119 : Cond.methodLinkNest "PreferTable$Question" 24 ⟨"PreferTable$RowList", "<init>", "()V"⟩ "PreferTable" ∈ lw_tbl := ev_mem 119 (by decide +kernel)
theorem wd_120 : Cond.fieldLink "PreferTable$Question" 9 "PreferTable$Question" "node" "LPreferTable$Node;" ∈ lw_tbl := ev_mem 120 (by decide +kernel)
theorem wd_121 : Cond.fieldLink "PreferTable" 239 "PreferTable$Question" "node" "LPreferTable$Node;" ∈ lw_tbl := ev_mem 121 (by decide +kernel)
theorem wd_122 : Cond.fieldLink "PreferTable$Question" 18 "PreferTable$Question" "conditions" "LPreferTable$Conditions;" ∈ lw_tbl := ev_mem 122 (by decide +kernel)
theorem wd_123 : Cond.fieldLink "PreferTable" 277 "PreferTable$Question" "conditions" "LPreferTable$Conditions;" ∈ lw_tbl := ev_mem 123 (by decide +kernel)
theorem wd_124 : Cond.fieldLink "PreferTable$Question" 25 "PreferTable$Question" "current" "LPreferTable$RowList;" ∈ lw_tbl := ev_mem 124 (by decide +kernel)
theorem wd_125 : Cond.fieldLink "PreferTable" 221 "PreferTable$Question" "current" "LPreferTable$RowList;" ∈ lw_tbl := ev_mem 125 (by decide +kernel)
theorem wd_126 : Cond.fieldLink "PreferTable$Question" 29 "PreferTable$Question" "lastRead" "LPreferTable$RowList;" ∈ lw_tbl := ev_mem 126 (by decide +kernel)
theorem wd_127 : Cond.fieldLink "PreferTable" 230 "PreferTable$Question" "lastRead" "LPreferTable$RowList;" ∈ lw_tbl := ev_mem 127 (by decide +kernel)
theorem wd_128 : Cond.fieldLink "PreferTable$Question" 32 "PreferTable$Question" "alterationsSeen" "I" ∈ lw_tbl := ev_mem 128 (by decide +kernel)
theorem wd_129 : Cond.fieldLink "PreferTable" 274 "PreferTable$Question" "alterationsSeen" "I" ∈ lw_tbl := ev_mem 129 (by decide +kernel)
theorem wd_141 : Cond.fieldLink "PreferTable" 12 "PreferTable" "rows" "LPreferTable$Rows;" ∈ lw_tbl := ev_mem 141 (by decide +kernel)
theorem wd_142 : Cond.fieldLink "PreferTable" 18 "PreferTable" "nodes" "[LPreferTable$Node;" ∈ lw_tbl := ev_mem 142 (by decide +kernel)
theorem wd_143 : Cond.fieldLink "PreferTable" 22 "PreferTable" "nodeCount" "I" ∈ lw_tbl := ev_mem 143 (by decide +kernel)
theorem wd_144 : Cond.fieldLink "PreferTable" 29 "PreferTable" "conditions" "LPreferTable$Conditions;" ∈ lw_tbl := ev_mem 144 (by decide +kernel)
theorem wd_145 : Cond.fieldLink "PreferTable" 36 "PreferTable" "contest" "LPreferTable$Contest;" ∈ lw_tbl := ev_mem 145 (by decide +kernel)
theorem wd_146 : Cond.fieldLink "PreferTable" 43 "PreferTable" "answered" "LPreferTable$RowList;" ∈ lw_tbl := ev_mem 146 (by decide +kernel)
theorem wd_147 : Cond.fieldLink "PreferTable" 47 "PreferTable" "nobody" "LPreferTable$RowList;" ∈ lw_tbl := ev_mem 147 (by decide +kernel)
theorem wd_148 : Cond.fieldLink "PreferTable" 52 "PreferTable" "questions" "[LPreferTable$Question;" ∈ lw_tbl := ev_mem 148 (by decide +kernel)
theorem wd_149 : Cond.fieldLink "PreferTable" 56 "PreferTable" "alterations" "I" ∈ lw_tbl := ev_mem 149 (by decide +kernel)
theorem wd_150 : Cond.fieldLink "PreferTable" 59 "PreferTable" "formNumbers" "[I" ∈ lw_tbl := ev_mem 150 (by decide +kernel)
theorem wd_151 : Cond.fieldLink "PreferTable" 63 "PreferTable" "formLength" "I" ∈ lw_tbl := ev_mem 151 (by decide +kernel)
theorem wd_175 : Cond.methodLink "PreferTableLaw" 79 ⟨"PreferTable", "change", "(III)Z"⟩ ∈ lw_tbl := ev_mem 175 (by decide +kernel)
theorem wd_176 : Cond.instanceMethod ⟨"PreferTable", "change", "(III)Z"⟩ ∈ lw_tbl := ev_mem 176 (by decide +kernel)
theorem wd_177 : Cond.selects "PreferTable" ⟨"PreferTable", "change", "(III)Z"⟩ ⟨"PreferTable", "change", "(III)Z"⟩ ∈ lw_tbl := ev_mem 177 (by decide +kernel)
theorem wd_178 : Cond.code ⟨"PreferTable", "change", "(III)Z"⟩ prog_1_method_3_code 5 (Option.some Jvm.ClassFile.FieldType.boolean) ∈ lw_tbl := ev_mem 178 (by decide +kernel)
theorem wd_179 : Cond.methodLink "PreferTable" 82 ⟨"PreferTable$Rows", "placeOf", "(I)I"⟩ ∈ lw_tbl := ev_mem 179 (by decide +kernel)
theorem wd_180 : Cond.instanceMethod ⟨"PreferTable$Rows", "placeOf", "(I)I"⟩ ∈ lw_tbl := ev_mem 180 (by decide +kernel)
theorem wd_181 : Cond.selects "PreferTable$Rows" ⟨"PreferTable$Rows", "placeOf", "(I)I"⟩ ⟨"PreferTable$Rows", "placeOf", "(I)I"⟩ ∈ lw_tbl := ev_mem 181 (by decide +kernel)
theorem wd_182 : Cond.code ⟨"PreferTable$Rows", "placeOf", "(I)I"⟩ prog_10_method_4_code 3 (Option.some Jvm.ClassFile.FieldType.int) ∈ lw_tbl := ev_mem 182 (by decide +kernel)
theorem wd_183 : Cond.methodLink "PreferTable" 86 ⟨"PreferTable", "isColumn", "(I)Z"⟩ ∈ lw_tbl := ev_mem 183 (by decide +kernel)
theorem wd_184 : Cond.static ⟨"PreferTable", "isColumn", "(I)Z"⟩ ∈ lw_tbl := ev_mem 184 (by decide +kernel)
theorem wd_185 : Cond.code ⟨"PreferTable", "isColumn", "(I)Z"⟩ prog_1_method_24_code 1 (Option.some Jvm.ClassFile.FieldType.boolean) ∈ lw_tbl := ev_mem 185 (by decide +kernel)
theorem wd_186 : Cond.methodLink "PreferTableLaw" 83 ⟨"PreferTable", "remove", "(I)Z"⟩ ∈ lw_tbl := ev_mem 186 (by decide +kernel)
theorem wd_187 : Cond.instanceMethod ⟨"PreferTable", "remove", "(I)Z"⟩ ∈ lw_tbl := ev_mem 187 (by decide +kernel)
theorem wd_188 : Cond.selects "PreferTable" ⟨"PreferTable", "remove", "(I)Z"⟩ ⟨"PreferTable", "remove", "(I)Z"⟩ ∈ lw_tbl := ev_mem 188 (by decide +kernel)
theorem wd_189 : Cond.code ⟨"PreferTable", "remove", "(I)Z"⟩ prog_1_method_4_code 3 (Option.some Jvm.ClassFile.FieldType.boolean) ∈ lw_tbl := ev_mem 189 (by decide +kernel)
theorem wd_190 : Cond.methodLink "PreferTable" 94 ⟨"PreferTable$Rows", "drop", "(I)V"⟩ ∈ lw_tbl := ev_mem 190 (by decide +kernel)
theorem wd_191 : Cond.instanceMethod ⟨"PreferTable$Rows", "drop", "(I)V"⟩ ∈ lw_tbl := ev_mem 191 (by decide +kernel)
theorem wd_192 : Cond.selects "PreferTable$Rows" ⟨"PreferTable$Rows", "drop", "(I)V"⟩ ⟨"PreferTable$Rows", "drop", "(I)V"⟩ ∈ lw_tbl := ev_mem 192 (by decide +kernel)
theorem wd_193 : Cond.code ⟨"PreferTable$Rows", "drop", "(I)V"⟩ prog_10_method_5_code 3 Option.none ∈ lw_tbl := ev_mem 193 (by decide +kernel)
theorem wd_194 : Cond.methodLink "PreferTable$Rows" 27 ⟨"java/lang/System", "arraycopy", "(Ljava/lang/Object;ILjava/lang/Object;II)V"⟩ ∈ lw_tbl := ev_mem 194 (by decide +kernel)
theorem wd_195 : Cond.static ⟨"java/lang/System", "arraycopy", "(Ljava/lang/Object;ILjava/lang/Object;II)V"⟩ ∈ lw_tbl := ev_mem 195 (by decide +kernel)
theorem wd_196 : Cond.native ⟨"java/lang/System", "arraycopy", "(Ljava/lang/Object;ILjava/lang/Object;II)V"⟩ ∈ lw_tbl := ev_mem 196 (by decide +kernel)
theorem wd_197 : Cond.methodLink "PreferTableLaw" 95 ⟨"PreferTable", "layer", "(III)Z"⟩ ∈ lw_tbl := ev_mem 197 (by decide +kernel)
theorem wd_198 : Cond.instanceMethod ⟨"PreferTable", "layer", "(III)Z"⟩ ∈ lw_tbl := ev_mem 198 (by decide +kernel)
theorem wd_199 : Cond.selects "PreferTable" ⟨"PreferTable", "layer", "(III)Z"⟩ ⟨"PreferTable", "layer", "(III)Z"⟩ ∈ lw_tbl := ev_mem 199 (by decide +kernel)
theorem wd_200 : Cond.code ⟨"PreferTable", "layer", "(III)Z"⟩ prog_1_method_7_code 6 (Option.some Jvm.ClassFile.FieldType.boolean) ∈ lw_tbl := ev_mem 200 (by decide +kernel)
theorem wd_201 : Cond.methodLink "PreferTable" 118 ⟨"PreferTable", "isNode", "(I)Z"⟩ ∈ lw_tbl := ev_mem 201 (by decide +kernel)
theorem wd_203 : Cond.instanceMethod ⟨"PreferTable", "isNode", "(I)Z"⟩ ∈ lw_tbl := ev_mem 203 (by decide +kernel)
theorem wd_204 : Cond.code ⟨"PreferTable", "isNode", "(I)Z"⟩ prog_1_method_26_code 2 (Option.some Jvm.ClassFile.FieldType.boolean) ∈ lw_tbl := ev_mem 204 (by decide +kernel)
theorem wd_205 : Cond.methodLink "PreferTable" 121 ⟨"PreferTable", "isGraded", "(I)Z"⟩ ∈ lw_tbl := ev_mem 205 (by decide +kernel)
theorem wd_206 : Cond.static ⟨"PreferTable", "isGraded", "(I)Z"⟩ ∈ lw_tbl := ev_mem 206 (by decide +kernel)
theorem wd_207 : Cond.code ⟨"PreferTable", "isGraded", "(I)Z"⟩ prog_1_method_25_code 1 (Option.some Jvm.ClassFile.FieldType.boolean) ∈ lw_tbl := ev_mem 207 (by decide +kernel)
theorem wd_208 : Cond.classLink "PreferTable" 124 "PreferTable$Layers" ∈ lw_tbl := ev_mem 208 (by decide +kernel)
theorem wd_209 : Cond.methodLink "PreferTableLaw" 109 ⟨"PreferTable", "free", "()V"⟩ ∈ lw_tbl := ev_mem 209 (by decide +kernel)
theorem wd_210 : Cond.instanceMethod ⟨"PreferTable", "free", "()V"⟩ ∈ lw_tbl := ev_mem 210 (by decide +kernel)
theorem wd_211 : Cond.selects "PreferTable" ⟨"PreferTable", "free", "()V"⟩ ⟨"PreferTable", "free", "()V"⟩ ∈ lw_tbl := ev_mem 211 (by decide +kernel)
theorem wd_212 : Cond.code ⟨"PreferTable", "free", "()V"⟩ prog_1_method_11_code 1 Option.none ∈ lw_tbl := ev_mem 212 (by decide +kernel)
theorem wd_213 : Cond.methodLink "PreferTable" 162 ⟨"PreferTable$Conditions", "clear", "()V"⟩ ∈ lw_tbl := ev_mem 213 (by decide +kernel)
theorem wd_214 : Cond.instanceMethod ⟨"PreferTable$Conditions", "clear", "()V"⟩ ∈ lw_tbl := ev_mem 214 (by decide +kernel)
theorem wd_215 : Cond.selects "PreferTable$Conditions" ⟨"PreferTable$Conditions", "clear", "()V"⟩ ⟨"PreferTable$Conditions", "clear", "()V"⟩ ∈ lw_tbl := ev_mem 215 (by decide +kernel)
theorem wd_216 : Cond.code ⟨"PreferTable$Conditions", "clear", "()V"⟩ prog_2_method_2_code 1 Option.none ∈ lw_tbl := ev_mem 216 (by decide +kernel)
theorem wd_217 : Cond.methodLink "PreferTableLaw" 129 ⟨"PreferTable", "answer", "(I)I"⟩ ∈ lw_tbl := ev_mem 217 (by decide +kernel)
theorem wd_218 : Cond.instanceMethod ⟨"PreferTable", "answer", "(I)I"⟩ ∈ lw_tbl := ev_mem 218 (by decide +kernel)
theorem wd_219 : Cond.selects "PreferTable" ⟨"PreferTable", "answer", "(I)I"⟩ ⟨"PreferTable", "answer", "(I)I"⟩ ∈ lw_tbl := ev_mem 219 (by decide +kernel)
theorem wd_220 : Cond.code ⟨"PreferTable", "answer", "(I)I"⟩ prog_1_method_17_code 2 (Option.some Jvm.ClassFile.FieldType.int) ∈ lw_tbl := ev_mem 220 (by decide +kernel)
theorem wd_221 : Cond.methodLink "PreferTable" 200 ⟨"PreferTable$RowList", "pick", "(LPreferTable$RowList;I)I"⟩ ∈ lw_tbl := ev_mem 221 (by decide +kernel)
theorem wd_222 : Cond.instanceMethod ⟨"PreferTable$RowList", "pick", "(LPreferTable$RowList;I)I"⟩ ∈ lw_tbl := ev_mem 222 (by decide +kernel)
theorem wd_223 : Cond.selects "PreferTable$RowList" ⟨"PreferTable$RowList", "pick", "(LPreferTable$RowList;I)I"⟩ ⟨"PreferTable$RowList", "pick", "(LPreferTable$RowList;I)I"⟩ ∈ lw_tbl := ev_mem 223 (by decide +kernel)
theorem wd_224 : Cond.code ⟨"PreferTable$RowList", "pick", "(LPreferTable$RowList;I)I"⟩ prog_9_method_6_code 5 (Option.some Jvm.ClassFile.FieldType.int) ∈ lw_tbl := ev_mem 224 (by decide +kernel)
theorem wd_225 : Cond.methodLink "PreferTable$RowList" 25 ⟨"PreferTable$RowList", "has", "(I)Z"⟩ ∈ lw_tbl := ev_mem 225 (by decide +kernel)
theorem wd_226 : Cond.instanceMethod ⟨"PreferTable$RowList", "has", "(I)Z"⟩ ∈ lw_tbl := ev_mem 226 (by decide +kernel)
theorem wd_227 : Cond.selects "PreferTable$RowList" ⟨"PreferTable$RowList", "has", "(I)Z"⟩ ⟨"PreferTable$RowList", "has", "(I)Z"⟩ ∈ lw_tbl := ev_mem 227 (by decide +kernel)
theorem wd_228 : Cond.code ⟨"PreferTable$RowList", "has", "(I)Z"⟩ prog_9_method_5_code 3 (Option.some Jvm.ClassFile.FieldType.boolean) ∈ lw_tbl := ev_mem 228 (by decide +kernel)
theorem wd_229 : Cond.methodLink "PreferTableLaw" 139 ⟨"PreferTable", "saved", "(III)I"⟩ ∈ lw_tbl := ev_mem 229 (by decide +kernel)
theorem wd_230 : Cond.instanceMethod ⟨"PreferTable", "saved", "(III)I"⟩ ∈ lw_tbl := ev_mem 230 (by decide +kernel)
theorem wd_231 : Cond.selects "PreferTable" ⟨"PreferTable", "saved", "(III)I"⟩ ⟨"PreferTable", "saved", "(III)I"⟩ ∈ lw_tbl := ev_mem 231 (by decide +kernel)
theorem wd_232 : Cond.code ⟨"PreferTable", "saved", "(III)I"⟩ prog_1_method_20_code 5 (Option.some Jvm.ClassFile.FieldType.int) ∈ lw_tbl := ev_mem 232 (by decide +kernel)
theorem wd_233 : Cond.methodLink "PreferTable" 224 ⟨"PreferTable", "isSaved", "(I)Z"⟩ ∈ lw_tbl := ev_mem 233 (by decide +kernel)
theorem wd_235 : Cond.instanceMethod ⟨"PreferTable", "isSaved", "(I)Z"⟩ ∈ lw_tbl := ev_mem 235 (by decide +kernel)
theorem wd_236 : Cond.code ⟨"PreferTable", "isSaved", "(I)Z"⟩ prog_1_method_28_code 2 (Option.some Jvm.ClassFile.FieldType.boolean) ∈ lw_tbl := ev_mem 236 (by decide +kernel)
theorem wd_237 : Cond.methodLink "PreferTable" 208 ⟨"PreferTable", "isQuestion", "(I)Z"⟩ ∈ lw_tbl := ev_mem 237 (by decide +kernel)
theorem wd_238 : Cond.static ⟨"PreferTable", "isQuestion", "(I)Z"⟩ ∈ lw_tbl := ev_mem 238 (by decide +kernel)
theorem wd_239 : Cond.code ⟨"PreferTable", "isQuestion", "(I)Z"⟩ prog_1_method_27_code 1 (Option.some Jvm.ClassFile.FieldType.boolean) ∈ lw_tbl := ev_mem 239 (by decide +kernel)
theorem wd_240 : Cond.methodLink "PreferTable" 227 ⟨"PreferTable", "keepUp", "(LPreferTable$Question;)V"⟩ ∈ lw_tbl := ev_mem 240 (by decide +kernel)
theorem wd_242 : Cond.instanceMethod ⟨"PreferTable", "keepUp", "(LPreferTable$Question;)V"⟩ ∈ lw_tbl := ev_mem 242 (by decide +kernel)
theorem wd_243 : Cond.code ⟨"PreferTable", "keepUp", "(LPreferTable$Question;)V"⟩ prog_1_method_33_code 2 Option.none ∈ lw_tbl := ev_mem 243 (by decide +kernel)
theorem wd_244 : Cond.methodLink "PreferTable" 173 ⟨"PreferTable$Contest", "hold", "(LPreferTable$Rows;LPreferTable$Node;LPreferTable$Conditions;)V"⟩ ∈ lw_tbl := ev_mem 244 (by decide +kernel)
theorem wd_245 : Cond.instanceMethod ⟨"PreferTable$Contest", "hold", "(LPreferTable$Rows;LPreferTable$Node;LPreferTable$Conditions;)V"⟩ ∈ lw_tbl := ev_mem 245 (by decide +kernel)
theorem wd_246 : Cond.selects "PreferTable$Contest" ⟨"PreferTable$Contest", "hold", "(LPreferTable$Rows;LPreferTable$Node;LPreferTable$Conditions;)V"⟩ ⟨"PreferTable$Contest", "hold", "(LPreferTable$Rows;LPreferTable$Node;LPreferTable$Conditions;)V"⟩ ∈ lw_tbl := ev_mem 246 (by decide +kernel)
theorem wd_247 : Cond.code ⟨"PreferTable$Contest", "hold", "(LPreferTable$Rows;LPreferTable$Node;LPreferTable$Conditions;)V"⟩ prog_3_method_2_code 6 Option.none ∈ lw_tbl := ev_mem 247 (by decide +kernel)
theorem wd_248 : Cond.methodLink "PreferTable$Contest" 22 ⟨"PreferTable$Contest", "letIn", "(LPreferTable$Rows;LPreferTable$Conditions;)V"⟩ ∈ lw_tbl := ev_mem 248 (by decide +kernel)
theorem wd_250 : Cond.instanceMethod ⟨"PreferTable$Contest", "letIn", "(LPreferTable$Rows;LPreferTable$Conditions;)V"⟩ ∈ lw_tbl := ev_mem 250 (by decide +kernel)
theorem wd_251 : Cond.code ⟨"PreferTable$Contest", "letIn", "(LPreferTable$Rows;LPreferTable$Conditions;)V"⟩ prog_3_method_3_code 4 Option.none ∈ lw_tbl := ev_mem 251 (by decide +kernel)
theorem wd_252 : Cond.methodLink "PreferTable$Contest" 49 ⟨"PreferTable$Conditions", "pass", "([I)Z"⟩ ∈ lw_tbl := ev_mem 252 (by decide +kernel)
theorem wd_253 : Cond.instanceMethod ⟨"PreferTable$Conditions", "pass", "([I)Z"⟩ ∈ lw_tbl := ev_mem 253 (by decide +kernel)
theorem wd_254 : Cond.selects "PreferTable$Conditions" ⟨"PreferTable$Conditions", "pass", "([I)Z"⟩ ⟨"PreferTable$Conditions", "pass", "([I)Z"⟩ ∈ lw_tbl := ev_mem 254 (by decide +kernel)
theorem wd_255 : Cond.code ⟨"PreferTable$Conditions", "pass", "([I)Z"⟩ prog_2_method_5_code 3 (Option.some Jvm.ClassFile.FieldType.boolean) ∈ lw_tbl := ev_mem 255 (by decide +kernel)
theorem wd_256 : Cond.methodLink "PreferTable$Conditions" 32 ⟨"PreferTable$Conditions", "holds", "(III)Z"⟩ ∈ lw_tbl := ev_mem 256 (by decide +kernel)
theorem wd_257 : Cond.static ⟨"PreferTable$Conditions", "holds", "(III)Z"⟩ ∈ lw_tbl := ev_mem 257 (by decide +kernel)
theorem wd_258 : Cond.code ⟨"PreferTable$Conditions", "holds", "(III)Z"⟩ prog_2_method_6_code 3 (Option.some Jvm.ClassFile.FieldType.boolean) ∈ lw_tbl := ev_mem 258 (by decide +kernel)
theorem wd_259 : Cond.methodLink "PreferTable$Contest" 31 ⟨"PreferTable$Contest", "isIn", "(II)Z"⟩ ∈ lw_tbl := ev_mem 259 (by decide +kernel)
theorem wd_260 : Cond.static ⟨"PreferTable$Contest", "isIn", "(II)Z"⟩ ∈ lw_tbl := ev_mem 260 (by decide +kernel)
theorem wd_261 : Cond.code ⟨"PreferTable$Contest", "isIn", "(II)Z"⟩ prog_3_method_5_code 2 (Option.some Jvm.ClassFile.FieldType.boolean) ∈ lw_tbl := ev_mem 261 (by decide +kernel)
theorem wd_262 : Cond.methodLink "PreferTable$Contest" 39 ⟨"PreferTable$Node", "says", "([I[I)I"⟩ ∈ lw_tbl := ev_mem 262 (by decide +kernel)
theorem wd_263 : Cond.declares ⟨"PreferTable$Node", "says", "([I[I)I"⟩ ∈ lw_tbl := ev_mem 263 (by decide +kernel)
theorem wd_264 : Cond.sameMethod "PreferTable$Node" "PreferTable$Node" "says" "([I[I)I" ∈ lw_tbl := ev_mem 264 (by decide +kernel)
theorem wd_265 : Cond.selects "PreferTable$Graph" ⟨"PreferTable$Node", "says", "([I[I)I"⟩ ⟨"PreferTable$Order", "says", "([I[I)I"⟩ ∈ lw_tbl := ev_mem 265 (by decide +kernel)
theorem wd_266 : Cond.instanceMethod ⟨"PreferTable$Order", "says", "([I[I)I"⟩ ∈ lw_tbl := ev_mem 266 (by decide +kernel)
theorem wd_267 : Cond.code ⟨"PreferTable$Order", "says", "([I[I)I"⟩ prog_7_method_2_code 5 (Option.some Jvm.ClassFile.FieldType.int) ∈ lw_tbl := ev_mem 267 (by decide +kernel)
theorem wd_268 : Cond.methodLink "PreferTable$Order" 15 ⟨"PreferTable$Order", "prefers", "(II)Z"⟩ ∈ lw_tbl := ev_mem 268 (by decide +kernel)
theorem wd_269 : Cond.declares ⟨"PreferTable$Order", "prefers", "(II)Z"⟩ ∈ lw_tbl := ev_mem 269 (by decide +kernel)
theorem wd_270 : Cond.sameMethod "PreferTable$Order" "PreferTable$Order" "prefers" "(II)Z" ∈ lw_tbl := ev_mem 270 (by decide +kernel)
theorem wd_271 : Cond.selects "PreferTable$Graph" ⟨"PreferTable$Order", "prefers", "(II)Z"⟩ ⟨"PreferTable$Graph", "prefers", "(II)Z"⟩ ∈ lw_tbl := ev_mem 271 (by decide +kernel)
theorem wd_272 : Cond.instanceMethod ⟨"PreferTable$Graph", "prefers", "(II)Z"⟩ ∈ lw_tbl := ev_mem 272 (by decide +kernel)
theorem wd_273 : Cond.code ⟨"PreferTable$Graph", "prefers", "(II)Z"⟩ prog_4_method_2_code 3 (Option.some Jvm.ClassFile.FieldType.boolean) ∈ lw_tbl := ev_mem 273 (by decide +kernel)
theorem wd_274 : Cond.methodLinkNest "PreferTable$Graph" 18 ⟨"PreferTable", "isGraded", "(I)Z"⟩ "PreferTable" ∈ lw_tbl := ev_mem 274 (by decide +kernel)
theorem wd_275 : Cond.methodLink "PreferTable$Graph" 22 ⟨"PreferTable$Graph", "leads", "(II)Z"⟩ ∈ lw_tbl := ev_mem 275 (by decide +kernel)
theorem wd_276 : Cond.instanceMethod ⟨"PreferTable$Graph", "leads", "(II)Z"⟩ ∈ lw_tbl := ev_mem 276 (by decide +kernel)
theorem wd_277 : Cond.selects "PreferTable$Graph" ⟨"PreferTable$Graph", "leads", "(II)Z"⟩ ⟨"PreferTable$Graph", "leads", "(II)Z"⟩ ∈ lw_tbl := ev_mem 277 (by decide +kernel)
theorem wd_278 : Cond.code ⟨"PreferTable$Graph", "leads", "(II)Z"⟩ prog_4_method_3_code 3 (Option.some Jvm.ClassFile.FieldType.boolean) ∈ lw_tbl := ev_mem 278 (by decide +kernel)
theorem wd_279 : Cond.selects "PreferTable$Layers" ⟨"PreferTable$Order", "prefers", "(II)Z"⟩ ⟨"PreferTable$Layers", "prefers", "(II)Z"⟩ ∈ lw_tbl := ev_mem 279 (by decide +kernel)
theorem wd_280 : Cond.instanceMethod ⟨"PreferTable$Layers", "prefers", "(II)Z"⟩ ∈ lw_tbl := ev_mem 280 (by decide +kernel)
theorem wd_281 : Cond.code ⟨"PreferTable$Layers", "prefers", "(II)Z"⟩ prog_5_method_2_code 5 (Option.some Jvm.ClassFile.FieldType.boolean) ∈ lw_tbl := ev_mem 281 (by decide +kernel)
theorem wd_282 : Cond.methodLink "PreferTable$Layers" 15 ⟨"PreferTable$Layers", "find", "(I)I"⟩ ∈ lw_tbl := ev_mem 282 (by decide +kernel)
theorem wd_284 : Cond.instanceMethod ⟨"PreferTable$Layers", "find", "(I)I"⟩ ∈ lw_tbl := ev_mem 284 (by decide +kernel)
theorem wd_285 : Cond.instantiable "PreferTable$Layers" 6 ∈ lw_tbl := ev_mem 285 (by decide +kernel)
theorem wd_286 : Cond.code ⟨"PreferTable$Layers", "find", "(I)I"⟩ prog_5_method_3_code 2 (Option.some Jvm.ClassFile.FieldType.int) ∈ lw_tbl := ev_mem 286 (by decide +kernel)
theorem wd_287 : Cond.methodLinkNest "PreferTable$Layers" 19 ⟨"PreferTable", "isGraded", "(I)Z"⟩ "PreferTable" ∈ lw_tbl := ev_mem 287 (by decide +kernel)
theorem wd_288 : Cond.selects "PreferTable$ValueOrder" ⟨"PreferTable$Order", "prefers", "(II)Z"⟩ ⟨"PreferTable$ValueOrder", "prefers", "(II)Z"⟩ ∈ lw_tbl := ev_mem 288 (by decide +kernel)
theorem wd_289 : Cond.instanceMethod ⟨"PreferTable$ValueOrder", "prefers", "(II)Z"⟩ ∈ lw_tbl := ev_mem 289 (by decide +kernel)
theorem wd_290 : Cond.code ⟨"PreferTable$ValueOrder", "prefers", "(II)Z"⟩ prog_12_method_2_code 3 (Option.some Jvm.ClassFile.FieldType.boolean) ∈ lw_tbl := ev_mem 290 (by decide +kernel)
theorem wd_291 : Cond.methodLink "PreferTable$ValueOrder" 21 ⟨"PreferTable$ValueOrder", "distance", "(I)J"⟩ ∈ lw_tbl := ev_mem 291 (by decide +kernel)
theorem wd_293 : Cond.instanceMethod ⟨"PreferTable$ValueOrder", "distance", "(I)J"⟩ ∈ lw_tbl := ev_mem 293 (by decide +kernel)
theorem wd_294 : Cond.instantiable "PreferTable$ValueOrder" 7 ∈ lw_tbl := ev_mem 294 (by decide +kernel)
theorem wd_295 : Cond.code ⟨"PreferTable$ValueOrder", "distance", "(I)J"⟩ prog_12_method_3_code 2 (Option.some Jvm.ClassFile.FieldType.long) ∈ lw_tbl := ev_mem 295 (by decide +kernel)
theorem wd_296 : Cond.selects "PreferTable$Layers" ⟨"PreferTable$Node", "says", "([I[I)I"⟩ ⟨"PreferTable$Order", "says", "([I[I)I"⟩ ∈ lw_tbl := ev_mem 296 (by decide +kernel)
theorem wd_297 : Cond.selects "PreferTable$Term" ⟨"PreferTable$Node", "says", "([I[I)I"⟩ ⟨"PreferTable$Term", "says", "([I[I)I"⟩ ∈ lw_tbl := ev_mem 297 (by decide +kernel)
theorem wd_298 : Cond.instanceMethod ⟨"PreferTable$Term", "says", "([I[I)I"⟩ ∈ lw_tbl := ev_mem 298 (by decide +kernel)
theorem wd_299 : Cond.code ⟨"PreferTable$Term", "says", "([I[I)I"⟩ prog_11_method_3_code 5 (Option.some Jvm.ClassFile.FieldType.int) ∈ lw_tbl := ev_mem 299 (by decide +kernel)
theorem wd_300 : Cond.methodLink "PreferTable$Term" 29 ⟨"PreferTable$Node", "says", "([I[I)I"⟩ ∈ lw_tbl := ev_mem 300 (by decide +kernel)
theorem wd_301 : Cond.methodLink "PreferTable$Term" 36 ⟨"PreferTable$Term", "changedOver", "(I)I"⟩ ∈ lw_tbl := ev_mem 301 (by decide +kernel)
theorem wd_302 : Cond.static ⟨"PreferTable$Term", "changedOver", "(I)I"⟩ ∈ lw_tbl := ev_mem 302 (by decide +kernel)
theorem wd_303 : Cond.code ⟨"PreferTable$Term", "changedOver", "(I)I"⟩ prog_11_method_4_code 1 (Option.some Jvm.ClassFile.FieldType.int) ∈ lw_tbl := ev_mem 303 (by decide +kernel)
theorem wd_304 : Cond.methodLink "PreferTable$Term" 40 ⟨"PreferTable$Term", "paretoOf", "(II)I"⟩ ∈ lw_tbl := ev_mem 304 (by decide +kernel)
theorem wd_305 : Cond.static ⟨"PreferTable$Term", "paretoOf", "(II)I"⟩ ∈ lw_tbl := ev_mem 305 (by decide +kernel)
theorem wd_306 : Cond.code ⟨"PreferTable$Term", "paretoOf", "(II)I"⟩ prog_11_method_5_code 2 (Option.some Jvm.ClassFile.FieldType.int) ∈ lw_tbl := ev_mem 306 (by decide +kernel)
theorem wd_307 : Cond.selects "PreferTable$ValueOrder" ⟨"PreferTable$Node", "says", "([I[I)I"⟩ ⟨"PreferTable$Order", "says", "([I[I)I"⟩ ∈ lw_tbl := ev_mem 307 (by decide +kernel)
theorem wd_308 : Cond.methodLink "PreferTable$Contest" 45 ⟨"PreferTable$Contest", "note", "(III)V"⟩ ∈ lw_tbl := ev_mem 308 (by decide +kernel)
theorem wd_310 : Cond.instanceMethod ⟨"PreferTable$Contest", "note", "(III)V"⟩ ∈ lw_tbl := ev_mem 310 (by decide +kernel)
theorem wd_311 : Cond.code ⟨"PreferTable$Contest", "note", "(III)V"⟩ prog_3_method_4_code 4 Option.none ∈ lw_tbl := ev_mem 311 (by decide +kernel)
theorem wd_312 : Cond.methodLink "PreferTable" 177 ⟨"PreferTable$Contest", "listUnbeaten", "(LPreferTable$Rows;LPreferTable$RowList;)V"⟩ ∈ lw_tbl := ev_mem 312 (by decide +kernel)
theorem wd_313 : Cond.instanceMethod ⟨"PreferTable$Contest", "listUnbeaten", "(LPreferTable$Rows;LPreferTable$RowList;)V"⟩ ∈ lw_tbl := ev_mem 313 (by decide +kernel)
theorem wd_314 : Cond.selects "PreferTable$Contest" ⟨"PreferTable$Contest", "listUnbeaten", "(LPreferTable$Rows;LPreferTable$RowList;)V"⟩ ⟨"PreferTable$Contest", "listUnbeaten", "(LPreferTable$Rows;LPreferTable$RowList;)V"⟩ ∈ lw_tbl := ev_mem 314 (by decide +kernel)
theorem wd_315 : Cond.code ⟨"PreferTable$Contest", "listUnbeaten", "(LPreferTable$Rows;LPreferTable$RowList;)V"⟩ prog_3_method_7_code 4 Option.none ∈ lw_tbl := ev_mem 315 (by decide +kernel)
theorem wd_316 : Cond.methodLink "PreferTable$Contest" 55 ⟨"PreferTable$RowList", "clear", "()V"⟩ ∈ lw_tbl := ev_mem 316 (by decide +kernel)
theorem wd_317 : Cond.instanceMethod ⟨"PreferTable$RowList", "clear", "()V"⟩ ∈ lw_tbl := ev_mem 317 (by decide +kernel)
theorem wd_318 : Cond.selects "PreferTable$RowList" ⟨"PreferTable$RowList", "clear", "()V"⟩ ⟨"PreferTable$RowList", "clear", "()V"⟩ ∈ lw_tbl := ev_mem 318 (by decide +kernel)
theorem wd_319 : Cond.code ⟨"PreferTable$RowList", "clear", "()V"⟩ prog_9_method_2_code 1 Option.none ∈ lw_tbl := ev_mem 319 (by decide +kernel)
theorem wd_320 : Cond.methodLink "PreferTable$Contest" 63 ⟨"PreferTable$RowList", "add", "(I)V"⟩ ∈ lw_tbl := ev_mem 320 (by decide +kernel)
theorem wd_321 : Cond.instanceMethod ⟨"PreferTable$RowList", "add", "(I)V"⟩ ∈ lw_tbl := ev_mem 321 (by decide +kernel)
theorem wd_322 : Cond.selects "PreferTable$RowList" ⟨"PreferTable$RowList", "add", "(I)V"⟩ ⟨"PreferTable$RowList", "add", "(I)V"⟩ ∈ lw_tbl := ev_mem 322 (by decide +kernel)
theorem wd_323 : Cond.code ⟨"PreferTable$RowList", "add", "(I)V"⟩ prog_9_method_3_code 2 Option.none ∈ lw_tbl := ev_mem 323 (by decide +kernel)
theorem wd_324 : Cond.methodLink "PreferTableLaw" 143 ⟨"PreferTable", "read", "(I)Z"⟩ ∈ lw_tbl := ev_mem 324 (by decide +kernel)
theorem wd_325 : Cond.instanceMethod ⟨"PreferTable", "read", "(I)Z"⟩ ∈ lw_tbl := ev_mem 325 (by decide +kernel)
theorem wd_326 : Cond.selects "PreferTable" ⟨"PreferTable", "read", "(I)Z"⟩ ⟨"PreferTable", "read", "(I)Z"⟩ ∈ lw_tbl := ev_mem 326 (by decide +kernel)
theorem wd_327 : Cond.code ⟨"PreferTable", "read", "(I)Z"⟩ prog_1_method_21_code 2 (Option.some Jvm.ClassFile.FieldType.boolean) ∈ lw_tbl := ev_mem 327 (by decide +kernel)
theorem wd_328 : Cond.methodLink "PreferTable" 217 ⟨"PreferTable", "markRead", "(LPreferTable$Question;)V"⟩ ∈ lw_tbl := ev_mem 328 (by decide +kernel)
theorem wd_330 : Cond.instanceMethod ⟨"PreferTable", "markRead", "(LPreferTable$Question;)V"⟩ ∈ lw_tbl := ev_mem 330 (by decide +kernel)
theorem wd_331 : Cond.code ⟨"PreferTable", "markRead", "(LPreferTable$Question;)V"⟩ prog_1_method_34_code 2 Option.none ∈ lw_tbl := ev_mem 331 (by decide +kernel)
theorem wd_332 : Cond.methodLink "PreferTable" 278 ⟨"PreferTable$RowList", "copyFrom", "(LPreferTable$RowList;)V"⟩ ∈ lw_tbl := ev_mem 332 (by decide +kernel)
theorem wd_333 : Cond.instanceMethod ⟨"PreferTable$RowList", "copyFrom", "(LPreferTable$RowList;)V"⟩ ∈ lw_tbl := ev_mem 333 (by decide +kernel)
theorem wd_334 : Cond.selects "PreferTable$RowList" ⟨"PreferTable$RowList", "copyFrom", "(LPreferTable$RowList;)V"⟩ ⟨"PreferTable$RowList", "copyFrom", "(LPreferTable$RowList;)V"⟩ ∈ lw_tbl := ev_mem 334 (by decide +kernel)
theorem wd_335 : Cond.code ⟨"PreferTable$RowList", "copyFrom", "(LPreferTable$RowList;)V"⟩ prog_9_method_4_code 2 Option.none ∈ lw_tbl := ev_mem 335 (by decide +kernel)
theorem wd_336 : Cond.methodLink "PreferTable$RowList" 19 ⟨"java/lang/System", "arraycopy", "(Ljava/lang/Object;ILjava/lang/Object;II)V"⟩ ∈ lw_tbl := ev_mem 336 (by decide +kernel)
theorem wd_337 : Cond.methodLink "PreferTableLaw" 69 ⟨"PreferTableLaw", "row", "(LPreferTable;IIII[J)I"⟩ ∈ lw_tbl := ev_mem 337 (by decide +kernel)
theorem wd_338 : Cond.static ⟨"PreferTableLaw", "row", "(LPreferTable;IIII[J)I"⟩ ∈ lw_tbl := ev_mem 338 (by decide +kernel)
theorem wd_339 : Cond.codeWith ⟨"PreferTableLaw", "row", "(LPreferTable;IIII[J)I"⟩ method_3_code 7 (Option.some Jvm.ClassFile.FieldType.int) [(0, 14, 17, 13)] ∈ lw_tbl := ev_mem 339 (by decide +kernel)
theorem wd_341 : Cond.methodLink "PreferTableLaw" 7 ⟨"PreferTable", "row", "(IIII)I"⟩ ∈ lw_tbl := ev_mem 341 (by decide +kernel)
theorem wd_342 : Cond.instanceMethod ⟨"PreferTable", "row", "(IIII)I"⟩ ∈ lw_tbl := ev_mem 342 (by decide +kernel)
theorem wd_343 : Cond.selects "PreferTable" ⟨"PreferTable", "row", "(IIII)I"⟩ ⟨"PreferTable", "row", "(IIII)I"⟩ ∈ lw_tbl := ev_mem 343 (by decide +kernel)
theorem wd_344 : Cond.code ⟨"PreferTable", "row", "(IIII)I"⟩ prog_1_method_2_code 5 (Option.some Jvm.ClassFile.FieldType.int) ∈ lw_tbl := ev_mem 344 (by decide +kernel)
theorem wd_345 : Cond.methodLink "PreferTable" 67 ⟨"PreferTable$Rows", "isFull", "()Z"⟩ ∈ lw_tbl := ev_mem 345 (by decide +kernel)
theorem wd_346 : Cond.instanceMethod ⟨"PreferTable$Rows", "isFull", "()Z"⟩ ∈ lw_tbl := ev_mem 346 (by decide +kernel)
theorem wd_347 : Cond.selects "PreferTable$Rows" ⟨"PreferTable$Rows", "isFull", "()Z"⟩ ⟨"PreferTable$Rows", "isFull", "()Z"⟩ ∈ lw_tbl := ev_mem 347 (by decide +kernel)
theorem wd_348 : Cond.code ⟨"PreferTable$Rows", "isFull", "()Z"⟩ prog_10_method_2_code 1 (Option.some Jvm.ClassFile.FieldType.boolean) ∈ lw_tbl := ev_mem 348 (by decide +kernel)
theorem wd_349 : Cond.classLink "PreferTable" 71 "java/lang/IllegalStateException" ∈ lw_tbl := ev_mem 349 (by decide +kernel)
theorem wd_391 : Cond.methodLink "PreferTable" 75 ⟨"java/lang/IllegalStateException", "<init>", "(Ljava/lang/String;)V"⟩ ∈ lw_tbl := ev_mem 391 (by decide +kernel)
theorem wd_417 : Cond.methodLink "PreferTable" 78 ⟨"PreferTable$Rows", "add", "(IIII)I"⟩ ∈ lw_tbl := ev_mem 417 (by decide +kernel)
theorem wd_418 : Cond.instanceMethod ⟨"PreferTable$Rows", "add", "(IIII)I"⟩ ∈ lw_tbl := ev_mem 418 (by decide +kernel)
theorem wd_419 : Cond.selects "PreferTable$Rows" ⟨"PreferTable$Rows", "add", "(IIII)I"⟩ ⟨"PreferTable$Rows", "add", "(IIII)I"⟩ ∈ lw_tbl := ev_mem 419 (by decide +kernel)
theorem wd_420 : Cond.code ⟨"PreferTable$Rows", "add", "(IIII)I"⟩ prog_10_method_3_code 6 (Option.some Jvm.ClassFile.FieldType.int) ∈ lw_tbl := ev_mem 420 (by decide +kernel)
theorem wd_421 : Cond.methodLink "PreferTableLaw" 88 ⟨"PreferTableLaw", "value", "(LPreferTable;II[J)I"⟩ ∈ lw_tbl := ev_mem 421 (by decide +kernel)
theorem wd_422 : Cond.static ⟨"PreferTableLaw", "value", "(LPreferTable;II[J)I"⟩ ∈ lw_tbl := ev_mem 422 (by decide +kernel)
theorem wd_423 : Cond.codeWith ⟨"PreferTableLaw", "value", "(LPreferTable;II[J)I"⟩ method_4_code 5 (Option.some Jvm.ClassFile.FieldType.int) [(0, 10, 13, 19)] ∈ lw_tbl := ev_mem 423 (by decide +kernel)
theorem wd_425 : Cond.methodLink "PreferTableLaw" 15 ⟨"PreferTable", "value", "(II)I"⟩ ∈ lw_tbl := ev_mem 425 (by decide +kernel)
theorem wd_426 : Cond.instanceMethod ⟨"PreferTable", "value", "(II)I"⟩ ∈ lw_tbl := ev_mem 426 (by decide +kernel)
theorem wd_427 : Cond.selects "PreferTable" ⟨"PreferTable", "value", "(II)I"⟩ ⟨"PreferTable", "value", "(II)I"⟩ ∈ lw_tbl := ev_mem 427 (by decide +kernel)
theorem wd_428 : Cond.code ⟨"PreferTable", "value", "(II)I"⟩ prog_1_method_5_code 4 (Option.some Jvm.ClassFile.FieldType.int) ∈ lw_tbl := ev_mem 428 (by decide +kernel)
theorem wd_429 : Cond.classLink "PreferTable" 98 "java/lang/IndexOutOfBoundsException" ∈ lw_tbl := ev_mem 429 (by decide +kernel)
theorem wd_439 : Cond.methodLink "PreferTable" 102 ⟨"java/lang/IndexOutOfBoundsException", "<init>", "(Ljava/lang/String;)V"⟩ ∈ lw_tbl := ev_mem 439 (by decide +kernel)
theorem wd_445 : Cond.methodLink "PreferTableLaw" 92 ⟨"PreferTableLaw", "order", "(LPreferTable;IIII[J)I"⟩ ∈ lw_tbl := ev_mem 445 (by decide +kernel)
theorem wd_446 : Cond.static ⟨"PreferTableLaw", "order", "(LPreferTable;IIII[J)I"⟩ ∈ lw_tbl := ev_mem 446 (by decide +kernel)
theorem wd_447 : Cond.codeWith ⟨"PreferTableLaw", "order", "(LPreferTable;IIII[J)I"⟩ method_5_code 7 (Option.some Jvm.ClassFile.FieldType.int) [(0, 14, 17, 24), (0, 14, 21, 13)] ∈ lw_tbl := ev_mem 447 (by decide +kernel)
theorem wd_449 : Cond.methodLink "PreferTableLaw" 21 ⟨"PreferTable", "order", "(IIII)I"⟩ ∈ lw_tbl := ev_mem 449 (by decide +kernel)
theorem wd_450 : Cond.instanceMethod ⟨"PreferTable", "order", "(IIII)I"⟩ ∈ lw_tbl := ev_mem 450 (by decide +kernel)
theorem wd_451 : Cond.selects "PreferTable" ⟨"PreferTable", "order", "(IIII)I"⟩ ⟨"PreferTable", "order", "(IIII)I"⟩ ∈ lw_tbl := ev_mem 451 (by decide +kernel)
theorem wd_452 : Cond.code ⟨"PreferTable", "order", "(IIII)I"⟩ prog_1_method_6_code 5 (Option.some Jvm.ClassFile.FieldType.int) ∈ lw_tbl := ev_mem 452 (by decide +kernel)
theorem wd_453 : Cond.classLink "PreferTable" 103 "java/lang/IllegalArgumentException" ∈ lw_tbl := ev_mem 453 (by decide +kernel)
theorem wd_463 : Cond.methodLink "PreferTable" 107 ⟨"java/lang/IllegalArgumentException", "<init>", "(Ljava/lang/String;)V"⟩ ∈ lw_tbl := ev_mem 463 (by decide +kernel)
theorem wd_470 : Cond.methodLink "PreferTable" 110 ⟨"PreferTable", "newOrder", "(IIII)LPreferTable$Node;"⟩ ∈ lw_tbl := ev_mem 470 (by decide +kernel)
theorem wd_472 : Cond.instanceMethod ⟨"PreferTable", "newOrder", "(IIII)LPreferTable$Node;"⟩ ∈ lw_tbl := ev_mem 472 (by decide +kernel)
theorem wd_473 : Cond.code ⟨"PreferTable", "newOrder", "(IIII)LPreferTable$Node;"⟩ prog_1_method_29_code 5 (Option.some (Jvm.ClassFile.FieldType.object "PreferTable$Node")) ∈ lw_tbl := ev_mem 473 (by decide +kernel)
theorem wd_474 : Cond.methodLink "PreferTable" 243 ⟨"PreferTable$Layers", "<init>", "(II)V"⟩ ∈ lw_tbl := ev_mem 474 (by decide +kernel)
theorem wd_475 : Cond.instanceMethod ⟨"PreferTable$Layers", "<init>", "(II)V"⟩ ∈ lw_tbl := ev_mem 475 (by decide +kernel)
theorem wd_476 : Cond.code ⟨"PreferTable$Layers", "<init>", "(II)V"⟩ prog_5_method_1_code 4 Option.none ∈ lw_tbl := ev_mem 476 (by decide +kernel)
theorem wd_477 : Cond.methodLink "PreferTable$Layers" 3 ⟨"PreferTable$Order", "<init>", "(III)V"⟩ ∈ lw_tbl := ev_mem 477 (by decide +kernel)
theorem wd_478 : Cond.instanceMethod ⟨"PreferTable$Order", "<init>", "(III)V"⟩ ∈ lw_tbl := ev_mem 478 (by decide +kernel)
theorem wd_479 : Cond.code ⟨"PreferTable$Order", "<init>", "(III)V"⟩ prog_7_method_1_code 4 Option.none ∈ lw_tbl := ev_mem 479 (by decide +kernel)
theorem wd_480 : Cond.methodLink "PreferTable$Order" 3 ⟨"PreferTable$Node", "<init>", "(IIII)V"⟩ ∈ lw_tbl := ev_mem 480 (by decide +kernel)
theorem wd_481 : Cond.instanceMethod ⟨"PreferTable$Node", "<init>", "(IIII)V"⟩ ∈ lw_tbl := ev_mem 481 (by decide +kernel)
theorem wd_482 : Cond.code ⟨"PreferTable$Node", "<init>", "(IIII)V"⟩ prog_6_method_1_code 5 Option.none ∈ lw_tbl := ev_mem 482 (by decide +kernel)
theorem wd_483 : Cond.methodLink "PreferTable$Node" 1 ⟨"java/lang/Object", "<init>", "()V"⟩ ∈ lw_tbl := ev_mem 483 (by decide +kernel)
theorem wd_484 : Cond.fieldLink "PreferTable$Layers" 9 "PreferTable$Layers" "layerOf" "[I" ∈ lw_tbl := ev_mem 484 (by decide +kernel)
theorem wd_485 : Cond.fieldLink "PreferTable" 126 "PreferTable$Layers" "layerOf" "[I" ∈ lw_tbl := ev_mem 485 (by decide +kernel)
theorem wd_486 : Cond.fieldLink "PreferTable$Order" 9 "PreferTable$Order" "column" "I" ∈ lw_tbl := ev_mem 486 (by decide +kernel)
theorem wd_487 : Cond.fieldLink "PreferTable$Node" 7 "PreferTable$Node" "kind" "I" ∈ lw_tbl := ev_mem 487 (by decide +kernel)
theorem wd_488 : Cond.fieldLink "PreferTable$ValueOrder" 18 "PreferTable$ValueOrder" "kind" "I" ∈ lw_tbl := ev_mem 488 (by decide +kernel)
theorem wd_489 : Cond.sameField "PreferTable$ValueOrder" "PreferTable$Node" "kind" "I" ∈ lw_tbl := ev_mem 489 (by decide +kernel)
theorem wd_490 : Cond.fieldLink "PreferTable$Term" 33 "PreferTable$Term" "kind" "I" ∈ lw_tbl := ev_mem 490 (by decide +kernel)
theorem wd_491 : Cond.sameField "PreferTable$Term" "PreferTable$Node" "kind" "I" ∈ lw_tbl := ev_mem 491 (by decide +kernel)
theorem wd_492 : Cond.fieldLink "PreferTable$Order" 19 "PreferTable$Order" "kind" "I" ∈ lw_tbl := ev_mem 492 (by decide +kernel)
theorem wd_493 : Cond.sameField "PreferTable$Order" "PreferTable$Node" "kind" "I" ∈ lw_tbl := ev_mem 493 (by decide +kernel)
theorem wd_494 : Cond.fieldLink "PreferTable" 271 "PreferTable$Term" "kind" "I" ∈ lw_tbl := ev_mem 494 (by decide +kernel)
theorem wd_495 : Cond.fieldLink "PreferTable$Node" 13 "PreferTable$Node" "number" "I" ∈ lw_tbl := ev_mem 495 (by decide +kernel)
theorem wd_496 : Cond.fieldLink "PreferTable$Order" 26 "PreferTable$Order" "number" "I" ∈ lw_tbl := ev_mem 496 (by decide +kernel)
theorem wd_497 : Cond.sameField "PreferTable$Order" "PreferTable$Node" "number" "I" ∈ lw_tbl := ev_mem 497 (by decide +kernel)
theorem wd_498 : Cond.fieldLink "PreferTable" 252 "PreferTable$Node" "number" "I" ∈ lw_tbl := ev_mem 498 (by decide +kernel)
theorem wd_499 : Cond.fieldLink "PreferTable$Node" 16 "PreferTable$Node" "size" "I" ∈ lw_tbl := ev_mem 499 (by decide +kernel)
theorem wd_500 : Cond.fieldLink "PreferTable$Term" 26 "PreferTable$Node" "size" "I" ∈ lw_tbl := ev_mem 500 (by decide +kernel)
theorem wd_501 : Cond.fieldLink "PreferTable$Term" 9 "PreferTable$Node" "columns" "I" ∈ lw_tbl := ev_mem 501 (by decide +kernel)
theorem wd_502 : Cond.fieldLink "PreferTable$Node" 19 "PreferTable$Node" "columns" "I" ∈ lw_tbl := ev_mem 502 (by decide +kernel)
theorem wd_516 : Cond.classLink "PreferTable" 131 "PreferTable$Graph" ∈ lw_tbl := ev_mem 516 (by decide +kernel)
theorem wd_517 : Cond.instantiable "PreferTable$Graph" 7 ∈ lw_tbl := ev_mem 517 (by decide +kernel)
theorem wd_518 : Cond.methodLink "PreferTable" 246 ⟨"PreferTable$Graph", "<init>", "(II)V"⟩ ∈ lw_tbl := ev_mem 518 (by decide +kernel)
theorem wd_519 : Cond.instanceMethod ⟨"PreferTable$Graph", "<init>", "(II)V"⟩ ∈ lw_tbl := ev_mem 519 (by decide +kernel)
theorem wd_520 : Cond.code ⟨"PreferTable$Graph", "<init>", "(II)V"⟩ prog_4_method_1_code 3 Option.none ∈ lw_tbl := ev_mem 520 (by decide +kernel)
theorem wd_521 : Cond.methodLink "PreferTable$Graph" 3 ⟨"PreferTable$Order", "<init>", "(III)V"⟩ ∈ lw_tbl := ev_mem 521 (by decide +kernel)
theorem wd_522 : Cond.fieldLink "PreferTable$Graph" 9 "PreferTable$Graph" "edges" "[I" ∈ lw_tbl := ev_mem 522 (by decide +kernel)
theorem wd_523 : Cond.fieldLink "PreferTable$Graph" 15 "PreferTable$Graph" "reached" "[I" ∈ lw_tbl := ev_mem 523 (by decide +kernel)
theorem wd_534 : Cond.classLink "PreferTable" 247 "PreferTable$ValueOrder" ∈ lw_tbl := ev_mem 534 (by decide +kernel)
theorem wd_535 : Cond.methodLink "PreferTable" 249 ⟨"PreferTable$ValueOrder", "<init>", "(IIIII)V"⟩ ∈ lw_tbl := ev_mem 535 (by decide +kernel)
theorem wd_536 : Cond.instanceMethod ⟨"PreferTable$ValueOrder", "<init>", "(IIIII)V"⟩ ∈ lw_tbl := ev_mem 536 (by decide +kernel)
theorem wd_537 : Cond.code ⟨"PreferTable$ValueOrder", "<init>", "(IIIII)V"⟩ prog_12_method_1_code 6 Option.none ∈ lw_tbl := ev_mem 537 (by decide +kernel)
theorem wd_538 : Cond.methodLink "PreferTable$ValueOrder" 3 ⟨"PreferTable$Order", "<init>", "(III)V"⟩ ∈ lw_tbl := ev_mem 538 (by decide +kernel)
theorem wd_539 : Cond.fieldLink "PreferTable$ValueOrder" 9 "PreferTable$ValueOrder" "from" "I" ∈ lw_tbl := ev_mem 539 (by decide +kernel)
theorem wd_540 : Cond.fieldLink "PreferTable$ValueOrder" 15 "PreferTable$ValueOrder" "to" "I" ∈ lw_tbl := ev_mem 540 (by decide +kernel)
theorem wd_551 : Cond.methodLink "PreferTable" 114 ⟨"PreferTable", "addNode", "(LPreferTable$Node;)I"⟩ ∈ lw_tbl := ev_mem 551 (by decide +kernel)
theorem wd_553 : Cond.instanceMethod ⟨"PreferTable", "addNode", "(LPreferTable$Node;)I"⟩ ∈ lw_tbl := ev_mem 553 (by decide +kernel)
theorem wd_554 : Cond.code ⟨"PreferTable", "addNode", "(LPreferTable$Node;)I"⟩ prog_1_method_30_code 2 (Option.some Jvm.ClassFile.FieldType.int) ∈ lw_tbl := ev_mem 554 (by decide +kernel)
theorem wd_555 : Cond.methodLink "PreferTableLaw" 99 ⟨"PreferTableLaw", "edge", "(LPreferTable;III[J)I"⟩ ∈ lw_tbl := ev_mem 555 (by decide +kernel)
theorem wd_556 : Cond.static ⟨"PreferTableLaw", "edge", "(LPreferTable;III[J)I"⟩ ∈ lw_tbl := ev_mem 556 (by decide +kernel)
theorem wd_557 : Cond.codeWith ⟨"PreferTableLaw", "edge", "(LPreferTable;III[J)I"⟩ method_6_code 6 (Option.some Jvm.ClassFile.FieldType.int) [(0, 19, 22, 24), (0, 19, 26, 13)] ∈ lw_tbl := ev_mem 557 (by decide +kernel)
theorem wd_558 : Cond.methodLink "PreferTableLaw" 26 ⟨"PreferTable", "edge", "(III)Z"⟩ ∈ lw_tbl := ev_mem 558 (by decide +kernel)
theorem wd_559 : Cond.instanceMethod ⟨"PreferTable", "edge", "(III)Z"⟩ ∈ lw_tbl := ev_mem 559 (by decide +kernel)
theorem wd_560 : Cond.selects "PreferTable" ⟨"PreferTable", "edge", "(III)Z"⟩ ⟨"PreferTable", "edge", "(III)Z"⟩ ∈ lw_tbl := ev_mem 560 (by decide +kernel)
theorem wd_561 : Cond.code ⟨"PreferTable", "edge", "(III)Z"⟩ prog_1_method_8_code 6 (Option.some Jvm.ClassFile.FieldType.boolean) ∈ lw_tbl := ev_mem 561 (by decide +kernel)
theorem wd_563 : Cond.methodLink "PreferTable" 133 ⟨"PreferTable", "addEdge", "(LPreferTable$Graph;II)Z"⟩ ∈ lw_tbl := ev_mem 563 (by decide +kernel)
theorem wd_565 : Cond.instanceMethod ⟨"PreferTable", "addEdge", "(LPreferTable$Graph;II)Z"⟩ ∈ lw_tbl := ev_mem 565 (by decide +kernel)
theorem wd_566 : Cond.code ⟨"PreferTable", "addEdge", "(LPreferTable$Graph;II)Z"⟩ prog_1_method_31_code 4 (Option.some Jvm.ClassFile.FieldType.boolean) ∈ lw_tbl := ev_mem 566 (by decide +kernel)
theorem wd_567 : Cond.methodLink "PreferTable" 255 ⟨"PreferTable$Graph", "leads", "(II)Z"⟩ ∈ lw_tbl := ev_mem 567 (by decide +kernel)
theorem wd_569 : Cond.methodLink "PreferTable" 261 ⟨"PreferTable$Graph", "hasEdge", "(II)Z"⟩ ∈ lw_tbl := ev_mem 569 (by decide +kernel)
theorem wd_570 : Cond.instanceMethod ⟨"PreferTable$Graph", "hasEdge", "(II)Z"⟩ ∈ lw_tbl := ev_mem 570 (by decide +kernel)
theorem wd_571 : Cond.selects "PreferTable$Graph" ⟨"PreferTable$Graph", "hasEdge", "(II)Z"⟩ ⟨"PreferTable$Graph", "hasEdge", "(II)Z"⟩ ∈ lw_tbl := ev_mem 571 (by decide +kernel)
theorem wd_572 : Cond.code ⟨"PreferTable$Graph", "hasEdge", "(II)Z"⟩ prog_4_method_4_code 3 (Option.some Jvm.ClassFile.FieldType.boolean) ∈ lw_tbl := ev_mem 572 (by decide +kernel)
theorem wd_573 : Cond.methodLink "PreferTable" 264 ⟨"PreferTable$Graph", "join", "(II)V"⟩ ∈ lw_tbl := ev_mem 573 (by decide +kernel)
theorem wd_574 : Cond.instanceMethod ⟨"PreferTable$Graph", "join", "(II)V"⟩ ∈ lw_tbl := ev_mem 574 (by decide +kernel)
theorem wd_575 : Cond.selects "PreferTable$Graph" ⟨"PreferTable$Graph", "join", "(II)V"⟩ ⟨"PreferTable$Graph", "join", "(II)V"⟩ ∈ lw_tbl := ev_mem 575 (by decide +kernel)
theorem wd_576 : Cond.code ⟨"PreferTable$Graph", "join", "(II)V"⟩ prog_4_method_5_code 5 Option.none ∈ lw_tbl := ev_mem 576 (by decide +kernel)
theorem wd_578 : Cond.methodLink "PreferTableLaw" 103 ⟨"PreferTableLaw", "term", "(LPreferTable;III[J)I"⟩ ∈ lw_tbl := ev_mem 578 (by decide +kernel)
theorem wd_579 : Cond.static ⟨"PreferTableLaw", "term", "(LPreferTable;III[J)I"⟩ ∈ lw_tbl := ev_mem 579 (by decide +kernel)
theorem wd_580 : Cond.codeWith ⟨"PreferTableLaw", "term", "(LPreferTable;III[J)I"⟩ method_7_code 6 (Option.some Jvm.ClassFile.FieldType.int) [(0, 12, 15, 24), (0, 12, 19, 13)] ∈ lw_tbl := ev_mem 580 (by decide +kernel)
theorem wd_581 : Cond.methodLink "PreferTableLaw" 30 ⟨"PreferTable", "term", "(III)I"⟩ ∈ lw_tbl := ev_mem 581 (by decide +kernel)
theorem wd_582 : Cond.instanceMethod ⟨"PreferTable", "term", "(III)I"⟩ ∈ lw_tbl := ev_mem 582 (by decide +kernel)
theorem wd_583 : Cond.selects "PreferTable" ⟨"PreferTable", "term", "(III)I"⟩ ⟨"PreferTable", "term", "(III)I"⟩ ∈ lw_tbl := ev_mem 583 (by decide +kernel)
theorem wd_584 : Cond.code ⟨"PreferTable", "term", "(III)I"⟩ prog_1_method_9_code 6 (Option.some Jvm.ClassFile.FieldType.int) ∈ lw_tbl := ev_mem 584 (by decide +kernel)
theorem wd_586 : Cond.methodLink "PreferTable" 141 ⟨"PreferTable$Term", "sizeOf", "(ILPreferTable$Node;LPreferTable$Node;)I"⟩ ∈ lw_tbl := ev_mem 586 (by decide +kernel)
theorem wd_587 : Cond.static ⟨"PreferTable$Term", "sizeOf", "(ILPreferTable$Node;LPreferTable$Node;)I"⟩ ∈ lw_tbl := ev_mem 587 (by decide +kernel)
theorem wd_588 : Cond.code ⟨"PreferTable$Term", "sizeOf", "(ILPreferTable$Node;LPreferTable$Node;)I"⟩ prog_11_method_2_code 3 (Option.some Jvm.ClassFile.FieldType.int) ∈ lw_tbl := ev_mem 588 (by decide +kernel)
theorem wd_590 : Cond.classLink "PreferTable" 142 "PreferTable$Term" ∈ lw_tbl := ev_mem 590 (by decide +kernel)
theorem wd_591 : Cond.instantiable "PreferTable$Term" 6 ∈ lw_tbl := ev_mem 591 (by decide +kernel)
theorem wd_592 : Cond.methodLink "PreferTable" 149 ⟨"PreferTable$Term", "<init>", "(IILPreferTable$Node;LPreferTable$Node;)V"⟩ ∈ lw_tbl := ev_mem 592 (by decide +kernel)
theorem wd_593 : Cond.instanceMethod ⟨"PreferTable$Term", "<init>", "(IILPreferTable$Node;LPreferTable$Node;)V"⟩ ∈ lw_tbl := ev_mem 593 (by decide +kernel)
theorem wd_594 : Cond.code ⟨"PreferTable$Term", "<init>", "(IILPreferTable$Node;LPreferTable$Node;)V"⟩ prog_11_method_1_code 5 Option.none ∈ lw_tbl := ev_mem 594 (by decide +kernel)
theorem wd_595 : Cond.methodLink "PreferTable$Term" 3 ⟨"PreferTable$Term", "sizeOf", "(ILPreferTable$Node;LPreferTable$Node;)I"⟩ ∈ lw_tbl := ev_mem 595 (by decide +kernel)
theorem wd_596 : Cond.methodLink "PreferTable$Term" 15 ⟨"PreferTable$Node", "<init>", "(IIII)V"⟩ ∈ lw_tbl := ev_mem 596 (by decide +kernel)
theorem wd_597 : Cond.fieldLink "PreferTable$Term" 19 "PreferTable$Term" "p" "LPreferTable$Node;" ∈ lw_tbl := ev_mem 597 (by decide +kernel)
theorem wd_598 : Cond.fieldLink "PreferTable$Term" 23 "PreferTable$Term" "q" "LPreferTable$Node;" ∈ lw_tbl := ev_mem 598 (by decide +kernel)
theorem wd_608 : Cond.methodLink "PreferTableLaw" 106 ⟨"PreferTableLaw", "condition", "(LPreferTable;III[J)I"⟩ ∈ lw_tbl := ev_mem 608 (by decide +kernel)
theorem wd_609 : Cond.static ⟨"PreferTableLaw", "condition", "(LPreferTable;III[J)I"⟩ ∈ lw_tbl := ev_mem 609 (by decide +kernel)
theorem wd_610 : Cond.codeWith ⟨"PreferTableLaw", "condition", "(LPreferTable;III[J)I"⟩ method_8_code 6 (Option.some Jvm.ClassFile.FieldType.int) [(0, 12, 15, 24), (0, 12, 19, 13)] ∈ lw_tbl := ev_mem 610 (by decide +kernel)
theorem wd_611 : Cond.methodLink "PreferTableLaw" 34 ⟨"PreferTable", "condition", "(III)I"⟩ ∈ lw_tbl := ev_mem 611 (by decide +kernel)
theorem wd_612 : Cond.instanceMethod ⟨"PreferTable", "condition", "(III)I"⟩ ∈ lw_tbl := ev_mem 612 (by decide +kernel)
theorem wd_613 : Cond.selects "PreferTable" ⟨"PreferTable", "condition", "(III)I"⟩ ⟨"PreferTable", "condition", "(III)I"⟩ ∈ lw_tbl := ev_mem 613 (by decide +kernel)
theorem wd_614 : Cond.code ⟨"PreferTable", "condition", "(III)I"⟩ prog_1_method_10_code 4 (Option.some Jvm.ClassFile.FieldType.int) ∈ lw_tbl := ev_mem 614 (by decide +kernel)
theorem wd_617 : Cond.methodLink "PreferTable" 159 ⟨"PreferTable$Conditions", "add", "(III)V"⟩ ∈ lw_tbl := ev_mem 617 (by decide +kernel)
theorem wd_618 : Cond.instanceMethod ⟨"PreferTable$Conditions", "add", "(III)V"⟩ ∈ lw_tbl := ev_mem 618 (by decide +kernel)
theorem wd_619 : Cond.selects "PreferTable$Conditions" ⟨"PreferTable$Conditions", "add", "(III)V"⟩ ⟨"PreferTable$Conditions", "add", "(III)V"⟩ ∈ lw_tbl := ev_mem 619 (by decide +kernel)
theorem wd_620 : Cond.code ⟨"PreferTable$Conditions", "add", "(III)V"⟩ prog_2_method_3_code 4 Option.none ∈ lw_tbl := ev_mem 620 (by decide +kernel)
theorem wd_621 : Cond.methodLink "PreferTableLaw" 113 ⟨"PreferTableLaw", "compare", "(LPreferTable;III[J)I"⟩ ∈ lw_tbl := ev_mem 621 (by decide +kernel)
theorem wd_622 : Cond.static ⟨"PreferTableLaw", "compare", "(LPreferTable;III[J)I"⟩ ∈ lw_tbl := ev_mem 622 (by decide +kernel)
theorem wd_623 : Cond.codeWith ⟨"PreferTableLaw", "compare", "(LPreferTable;III[J)I"⟩ method_9_code 6 (Option.some Jvm.ClassFile.FieldType.int) [(0, 12, 15, 19)] ∈ lw_tbl := ev_mem 623 (by decide +kernel)
theorem wd_624 : Cond.methodLink "PreferTableLaw" 37 ⟨"PreferTable", "compare", "(III)I"⟩ ∈ lw_tbl := ev_mem 624 (by decide +kernel)
theorem wd_625 : Cond.instanceMethod ⟨"PreferTable", "compare", "(III)I"⟩ ∈ lw_tbl := ev_mem 625 (by decide +kernel)
theorem wd_626 : Cond.selects "PreferTable" ⟨"PreferTable", "compare", "(III)I"⟩ ⟨"PreferTable", "compare", "(III)I"⟩ ∈ lw_tbl := ev_mem 626 (by decide +kernel)
theorem wd_627 : Cond.code ⟨"PreferTable", "compare", "(III)I"⟩ prog_1_method_12_code 6 (Option.some Jvm.ClassFile.FieldType.int) ∈ lw_tbl := ev_mem 627 (by decide +kernel)
theorem wd_629 : Cond.methodLink "PreferTable" 167 ⟨"PreferTable$Node", "says", "([I[I)I"⟩ ∈ lw_tbl := ev_mem 629 (by decide +kernel)
theorem wd_630 : Cond.methodLink "PreferTableLaw" 116 ⟨"PreferTableLaw", "best", "(LPreferTable;I[J)I"⟩ ∈ lw_tbl := ev_mem 630 (by decide +kernel)
theorem wd_631 : Cond.static ⟨"PreferTableLaw", "best", "(LPreferTable;I[J)I"⟩ ∈ lw_tbl := ev_mem 631 (by decide +kernel)
theorem wd_632 : Cond.codeWith ⟨"PreferTableLaw", "best", "(LPreferTable;I[J)I"⟩ method_10_code 4 (Option.some Jvm.ClassFile.FieldType.int) [(0, 9, 12, 19)] ∈ lw_tbl := ev_mem 632 (by decide +kernel)
theorem wd_633 : Cond.methodLink "PreferTableLaw" 40 ⟨"PreferTable", "best", "(I)I"⟩ ∈ lw_tbl := ev_mem 633 (by decide +kernel)
theorem wd_634 : Cond.instanceMethod ⟨"PreferTable", "best", "(I)I"⟩ ∈ lw_tbl := ev_mem 634 (by decide +kernel)
theorem wd_635 : Cond.selects "PreferTable" ⟨"PreferTable", "best", "(I)I"⟩ ⟨"PreferTable", "best", "(I)I"⟩ ∈ lw_tbl := ev_mem 635 (by decide +kernel)
theorem wd_636 : Cond.code ⟨"PreferTable", "best", "(I)I"⟩ prog_1_method_13_code 2 (Option.some Jvm.ClassFile.FieldType.int) ∈ lw_tbl := ev_mem 636 (by decide +kernel)
theorem wd_638 : Cond.methodLink "PreferTableLaw" 120 ⟨"PreferTableLaw", "grouped", "(LPreferTable;II[J)I"⟩ ∈ lw_tbl := ev_mem 638 (by decide +kernel)
theorem wd_639 : Cond.static ⟨"PreferTableLaw", "grouped", "(LPreferTable;II[J)I"⟩ ∈ lw_tbl := ev_mem 639 (by decide +kernel)
theorem wd_640 : Cond.codeWith ⟨"PreferTableLaw", "grouped", "(LPreferTable;II[J)I"⟩ method_11_code 5 (Option.some Jvm.ClassFile.FieldType.int) [(0, 10, 13, 19)] ∈ lw_tbl := ev_mem 640 (by decide +kernel)
theorem wd_641 : Cond.methodLink "PreferTableLaw" 44 ⟨"PreferTable", "grouped", "(II)I"⟩ ∈ lw_tbl := ev_mem 641 (by decide +kernel)
theorem wd_642 : Cond.instanceMethod ⟨"PreferTable", "grouped", "(II)I"⟩ ∈ lw_tbl := ev_mem 642 (by decide +kernel)
theorem wd_643 : Cond.selects "PreferTable" ⟨"PreferTable", "grouped", "(II)I"⟩ ⟨"PreferTable", "grouped", "(II)I"⟩ ∈ lw_tbl := ev_mem 643 (by decide +kernel)
theorem wd_644 : Cond.code ⟨"PreferTable", "grouped", "(II)I"⟩ prog_1_method_14_code 3 (Option.some Jvm.ClassFile.FieldType.int) ∈ lw_tbl := ev_mem 644 (by decide +kernel)
theorem wd_646 : Cond.methodLink "PreferTable" 184 ⟨"PreferTable$Contest", "forgetOtherGroups", "(LPreferTable$Rows;I)V"⟩ ∈ lw_tbl := ev_mem 646 (by decide +kernel)
theorem wd_647 : Cond.instanceMethod ⟨"PreferTable$Contest", "forgetOtherGroups", "(LPreferTable$Rows;I)V"⟩ ∈ lw_tbl := ev_mem 647 (by decide +kernel)
theorem wd_648 : Cond.selects "PreferTable$Contest" ⟨"PreferTable$Contest", "forgetOtherGroups", "(LPreferTable$Rows;I)V"⟩ ⟨"PreferTable$Contest", "forgetOtherGroups", "(LPreferTable$Rows;I)V"⟩ ∈ lw_tbl := ev_mem 648 (by decide +kernel)
theorem wd_649 : Cond.code ⟨"PreferTable$Contest", "forgetOtherGroups", "(LPreferTable$Rows;I)V"⟩ prog_3_method_6_code 5 Option.none ∈ lw_tbl := ev_mem 649 (by decide +kernel)
theorem wd_650 : Cond.methodLink "PreferTableLaw" 123 ⟨"PreferTableLaw", "top", "(LPreferTable;II[J)I"⟩ ∈ lw_tbl := ev_mem 650 (by decide +kernel)
theorem wd_651 : Cond.static ⟨"PreferTableLaw", "top", "(LPreferTable;II[J)I"⟩ ∈ lw_tbl := ev_mem 651 (by decide +kernel)
theorem wd_652 : Cond.codeWith ⟨"PreferTableLaw", "top", "(LPreferTable;II[J)I"⟩ method_12_code 5 (Option.some Jvm.ClassFile.FieldType.int) [(0, 10, 13, 19), (0, 10, 17, 24)] ∈ lw_tbl := ev_mem 652 (by decide +kernel)
theorem wd_653 : Cond.methodLink "PreferTableLaw" 47 ⟨"PreferTable", "top", "(II)I"⟩ ∈ lw_tbl := ev_mem 653 (by decide +kernel)
theorem wd_654 : Cond.instanceMethod ⟨"PreferTable", "top", "(II)I"⟩ ∈ lw_tbl := ev_mem 654 (by decide +kernel)
theorem wd_655 : Cond.selects "PreferTable" ⟨"PreferTable", "top", "(II)I"⟩ ⟨"PreferTable", "top", "(II)I"⟩ ∈ lw_tbl := ev_mem 655 (by decide +kernel)
theorem wd_656 : Cond.code ⟨"PreferTable", "top", "(II)I"⟩ prog_1_method_15_code 3 (Option.some Jvm.ClassFile.FieldType.int) ∈ lw_tbl := ev_mem 656 (by decide +kernel)
theorem wd_658 : Cond.methodLink "PreferTable" 190 ⟨"PreferTable$Contest", "rank", "()V"⟩ ∈ lw_tbl := ev_mem 658 (by decide +kernel)
theorem wd_659 : Cond.instanceMethod ⟨"PreferTable$Contest", "rank", "()V"⟩ ∈ lw_tbl := ev_mem 659 (by decide +kernel)
theorem wd_660 : Cond.selects "PreferTable$Contest" ⟨"PreferTable$Contest", "rank", "()V"⟩ ⟨"PreferTable$Contest", "rank", "()V"⟩ ∈ lw_tbl := ev_mem 660 (by decide +kernel)
theorem wd_661 : Cond.code ⟨"PreferTable$Contest", "rank", "()V"⟩ prog_3_method_8_code 4 Option.none ∈ lw_tbl := ev_mem 661 (by decide +kernel)
theorem wd_662 : Cond.methodLink "PreferTable$Contest" 67 ⟨"PreferTable$Contest", "setLevel", "(II)V"⟩ ∈ lw_tbl := ev_mem 662 (by decide +kernel)
theorem wd_664 : Cond.instanceMethod ⟨"PreferTable$Contest", "setLevel", "(II)V"⟩ ∈ lw_tbl := ev_mem 664 (by decide +kernel)
theorem wd_665 : Cond.code ⟨"PreferTable$Contest", "setLevel", "(II)V"⟩ prog_3_method_10_code 4 Option.none ∈ lw_tbl := ev_mem 665 (by decide +kernel)
theorem wd_666 : Cond.methodLink "PreferTable$Contest" 71 ⟨"PreferTable$Contest", "unbeatenAmong", "(I)I"⟩ ∈ lw_tbl := ev_mem 666 (by decide +kernel)
theorem wd_668 : Cond.instanceMethod ⟨"PreferTable$Contest", "unbeatenAmong", "(I)I"⟩ ∈ lw_tbl := ev_mem 668 (by decide +kernel)
theorem wd_669 : Cond.code ⟨"PreferTable$Contest", "unbeatenAmong", "(I)I"⟩ prog_3_method_9_code 4 (Option.some Jvm.ClassFile.FieldType.int) ∈ lw_tbl := ev_mem 669 (by decide +kernel)
theorem wd_670 : Cond.methodLink "PreferTable" 193 ⟨"PreferTable$Contest", "listFirst", "(LPreferTable$Rows;ILPreferTable$RowList;)V"⟩ ∈ lw_tbl := ev_mem 670 (by decide +kernel)
theorem wd_671 : Cond.instanceMethod ⟨"PreferTable$Contest", "listFirst", "(LPreferTable$Rows;ILPreferTable$RowList;)V"⟩ ∈ lw_tbl := ev_mem 671 (by decide +kernel)
theorem wd_672 : Cond.selects "PreferTable$Contest" ⟨"PreferTable$Contest", "listFirst", "(LPreferTable$Rows;ILPreferTable$RowList;)V"⟩ ⟨"PreferTable$Contest", "listFirst", "(LPreferTable$Rows;ILPreferTable$RowList;)V"⟩ ∈ lw_tbl := ev_mem 672 (by decide +kernel)
theorem wd_673 : Cond.code ⟨"PreferTable$Contest", "listFirst", "(LPreferTable$Rows;ILPreferTable$RowList;)V"⟩ prog_3_method_11_code 6 Option.none ∈ lw_tbl := ev_mem 673 (by decide +kernel)
theorem wd_674 : Cond.methodLink "PreferTableLaw" 126 ⟨"PreferTableLaw", "level", "(LPreferTable;II[J)I"⟩ ∈ lw_tbl := ev_mem 674 (by decide +kernel)
theorem wd_675 : Cond.static ⟨"PreferTableLaw", "level", "(LPreferTable;II[J)I"⟩ ∈ lw_tbl := ev_mem 675 (by decide +kernel)
theorem wd_676 : Cond.codeWith ⟨"PreferTableLaw", "level", "(LPreferTable;II[J)I"⟩ method_13_code 5 (Option.some Jvm.ClassFile.FieldType.int) [(0, 10, 13, 19)] ∈ lw_tbl := ev_mem 676 (by decide +kernel)
theorem wd_677 : Cond.methodLink "PreferTableLaw" 50 ⟨"PreferTable", "level", "(II)I"⟩ ∈ lw_tbl := ev_mem 677 (by decide +kernel)
theorem wd_678 : Cond.instanceMethod ⟨"PreferTable", "level", "(II)I"⟩ ∈ lw_tbl := ev_mem 678 (by decide +kernel)
theorem wd_679 : Cond.selects "PreferTable" ⟨"PreferTable", "level", "(II)I"⟩ ⟨"PreferTable", "level", "(II)I"⟩ ∈ lw_tbl := ev_mem 679 (by decide +kernel)
theorem wd_680 : Cond.code ⟨"PreferTable", "level", "(II)I"⟩ prog_1_method_16_code 4 (Option.some Jvm.ClassFile.FieldType.int) ∈ lw_tbl := ev_mem 680 (by decide +kernel)
theorem wd_681 : Cond.methodLink "PreferTableLaw" 133 ⟨"PreferTableLaw", "reason", "(LPreferTable;IIII[J)I"⟩ ∈ lw_tbl := ev_mem 681 (by decide +kernel)
theorem wd_682 : Cond.static ⟨"PreferTableLaw", "reason", "(LPreferTable;IIII[J)I"⟩ ∈ lw_tbl := ev_mem 682 (by decide +kernel)
theorem wd_683 : Cond.codeWith ⟨"PreferTableLaw", "reason", "(LPreferTable;IIII[J)I"⟩ method_14_code 7 (Option.some Jvm.ClassFile.FieldType.int) [(0, 14, 17, 19)] ∈ lw_tbl := ev_mem 683 (by decide +kernel)
theorem wd_684 : Cond.methodLink "PreferTableLaw" 53 ⟨"PreferTable", "reason", "(IIII)I"⟩ ∈ lw_tbl := ev_mem 684 (by decide +kernel)
theorem wd_685 : Cond.instanceMethod ⟨"PreferTable", "reason", "(IIII)I"⟩ ∈ lw_tbl := ev_mem 685 (by decide +kernel)
theorem wd_686 : Cond.selects "PreferTable" ⟨"PreferTable", "reason", "(IIII)I"⟩ ⟨"PreferTable", "reason", "(IIII)I"⟩ ∈ lw_tbl := ev_mem 686 (by decide +kernel)
theorem wd_687 : Cond.code ⟨"PreferTable", "reason", "(IIII)I"⟩ prog_1_method_18_code 7 (Option.some Jvm.ClassFile.FieldType.int) ∈ lw_tbl := ev_mem 687 (by decide +kernel)
theorem wd_688 : Cond.methodLink "PreferTable" 204 ⟨"PreferTable", "walkToDecider", "(LPreferTable$Node;[I[II)I"⟩ ∈ lw_tbl := ev_mem 688 (by decide +kernel)
theorem wd_689 : Cond.static ⟨"PreferTable", "walkToDecider", "(LPreferTable$Node;[I[II)I"⟩ ∈ lw_tbl := ev_mem 689 (by decide +kernel)
theorem wd_690 : Cond.code ⟨"PreferTable", "walkToDecider", "(LPreferTable$Node;[I[II)I"⟩ prog_1_method_32_code 10 (Option.some Jvm.ClassFile.FieldType.int) ∈ lw_tbl := ev_mem 690 (by decide +kernel)
theorem wd_691 : Cond.methodLink "PreferTable" 267 ⟨"PreferTable$Term", "partThatDecides", "([I[I)LPreferTable$Node;"⟩ ∈ lw_tbl := ev_mem 691 (by decide +kernel)
theorem wd_692 : Cond.instanceMethod ⟨"PreferTable$Term", "partThatDecides", "([I[I)LPreferTable$Node;"⟩ ∈ lw_tbl := ev_mem 692 (by decide +kernel)
theorem wd_693 : Cond.selects "PreferTable$Term" ⟨"PreferTable$Term", "partThatDecides", "([I[I)LPreferTable$Node;"⟩ ⟨"PreferTable$Term", "partThatDecides", "([I[I)LPreferTable$Node;"⟩ ∈ lw_tbl := ev_mem 693 (by decide +kernel)
theorem wd_694 : Cond.code ⟨"PreferTable$Term", "partThatDecides", "([I[I)LPreferTable$Node;"⟩ prog_11_method_6_code 3 (Option.some (Jvm.ClassFile.FieldType.object "PreferTable$Node")) ∈ lw_tbl := ev_mem 694 (by decide +kernel)
theorem wd_695 : Cond.methodLink "PreferTableLaw" 136 ⟨"PreferTableLaw", "save", "(LPreferTable;II[J)I"⟩ ∈ lw_tbl := ev_mem 695 (by decide +kernel)
theorem wd_696 : Cond.static ⟨"PreferTableLaw", "save", "(LPreferTable;II[J)I"⟩ ∈ lw_tbl := ev_mem 696 (by decide +kernel)
theorem wd_697 : Cond.codeWith ⟨"PreferTableLaw", "save", "(LPreferTable;II[J)I"⟩ method_15_code 5 (Option.some Jvm.ClassFile.FieldType.int) [(0, 10, 13, 19)] ∈ lw_tbl := ev_mem 697 (by decide +kernel)
theorem wd_698 : Cond.methodLink "PreferTableLaw" 56 ⟨"PreferTable", "save", "(II)I"⟩ ∈ lw_tbl := ev_mem 698 (by decide +kernel)
theorem wd_699 : Cond.instanceMethod ⟨"PreferTable", "save", "(II)I"⟩ ∈ lw_tbl := ev_mem 699 (by decide +kernel)
theorem wd_700 : Cond.selects "PreferTable" ⟨"PreferTable", "save", "(II)I"⟩ ⟨"PreferTable", "save", "(II)I"⟩ ∈ lw_tbl := ev_mem 700 (by decide +kernel)
theorem wd_701 : Cond.code ⟨"PreferTable", "save", "(II)I"⟩ prog_1_method_19_code 4 (Option.some Jvm.ClassFile.FieldType.int) ∈ lw_tbl := ev_mem 701 (by decide +kernel)
theorem wd_703 : Cond.methodLink "PreferTable" 213 ⟨"PreferTable$Question", "ask", "(LPreferTable$Node;LPreferTable$Conditions;)V"⟩ ∈ lw_tbl := ev_mem 703 (by decide +kernel)
theorem wd_704 : Cond.instanceMethod ⟨"PreferTable$Question", "ask", "(LPreferTable$Node;LPreferTable$Conditions;)V"⟩ ∈ lw_tbl := ev_mem 704 (by decide +kernel)
theorem wd_705 : Cond.selects "PreferTable$Question" ⟨"PreferTable$Question", "ask", "(LPreferTable$Node;LPreferTable$Conditions;)V"⟩ ⟨"PreferTable$Question", "ask", "(LPreferTable$Node;LPreferTable$Conditions;)V"⟩ ∈ lw_tbl := ev_mem 705 (by decide +kernel)
theorem wd_706 : Cond.code ⟨"PreferTable$Question", "ask", "(LPreferTable$Node;LPreferTable$Conditions;)V"⟩ prog_8_method_2_code 3 Option.none ∈ lw_tbl := ev_mem 706 (by decide +kernel)
theorem wd_707 : Cond.methodLink "PreferTable$Question" 36 ⟨"PreferTable$Conditions", "copyFrom", "(LPreferTable$Conditions;)V"⟩ ∈ lw_tbl := ev_mem 707 (by decide +kernel)
theorem wd_708 : Cond.instanceMethod ⟨"PreferTable$Conditions", "copyFrom", "(LPreferTable$Conditions;)V"⟩ ∈ lw_tbl := ev_mem 708 (by decide +kernel)
theorem wd_709 : Cond.selects "PreferTable$Conditions" ⟨"PreferTable$Conditions", "copyFrom", "(LPreferTable$Conditions;)V"⟩ ⟨"PreferTable$Conditions", "copyFrom", "(LPreferTable$Conditions;)V"⟩ ∈ lw_tbl := ev_mem 709 (by decide +kernel)
theorem wd_710 : Cond.code ⟨"PreferTable$Conditions", "copyFrom", "(LPreferTable$Conditions;)V"⟩ prog_2_method_4_code 3 Option.none ∈ lw_tbl := ev_mem 710 (by decide +kernel)
theorem wd_711 : Cond.methodLink "PreferTable$Conditions" 25 ⟨"PreferTable$Conditions", "clear", "()V"⟩ ∈ lw_tbl := ev_mem 711 (by decide +kernel)
theorem wd_712 : Cond.methodLink "PreferTable$Conditions" 28 ⟨"PreferTable$Conditions", "add", "(III)V"⟩ ∈ lw_tbl := ev_mem 712 (by decide +kernel)
theorem wd_713 : Cond.methodLink "PreferTableLaw" 147 ⟨"PreferTableLaw", "reduce", "(LPreferTable;I[J)I"⟩ ∈ lw_tbl := ev_mem 713 (by decide +kernel)
theorem wd_714 : Cond.static ⟨"PreferTableLaw", "reduce", "(LPreferTable;I[J)I"⟩ ∈ lw_tbl := ev_mem 714 (by decide +kernel)
theorem wd_715 : Cond.codeWith ⟨"PreferTableLaw", "reduce", "(LPreferTable;I[J)I"⟩ method_16_code 4 (Option.some Jvm.ClassFile.FieldType.int) [(0, 9, 12, 19)] ∈ lw_tbl := ev_mem 715 (by decide +kernel)
theorem wd_716 : Cond.methodLink "PreferTableLaw" 59 ⟨"PreferTable", "reduce", "(I)I"⟩ ∈ lw_tbl := ev_mem 716 (by decide +kernel)
theorem wd_717 : Cond.instanceMethod ⟨"PreferTable", "reduce", "(I)I"⟩ ∈ lw_tbl := ev_mem 717 (by decide +kernel)
theorem wd_718 : Cond.selects "PreferTable" ⟨"PreferTable", "reduce", "(I)I"⟩ ⟨"PreferTable", "reduce", "(I)I"⟩ ∈ lw_tbl := ev_mem 718 (by decide +kernel)
theorem wd_719 : Cond.code ⟨"PreferTable", "reduce", "(I)I"⟩ prog_1_method_22_code 2 (Option.some Jvm.ClassFile.FieldType.int) ∈ lw_tbl := ev_mem 719 (by decide +kernel)
theorem wd_720 : Cond.methodLink "PreferTable" 233 ⟨"PreferTable$Node", "putReduced", "([II)I"⟩ ∈ lw_tbl := ev_mem 720 (by decide +kernel)
theorem wd_721 : Cond.declares ⟨"PreferTable$Node", "putReduced", "([II)I"⟩ ∈ lw_tbl := ev_mem 721 (by decide +kernel)
theorem wd_722 : Cond.sameMethod "PreferTable$Node" "PreferTable$Node" "putReduced" "([II)I" ∈ lw_tbl := ev_mem 722 (by decide +kernel)
theorem wd_723 : Cond.selects "PreferTable$Graph" ⟨"PreferTable$Node", "putReduced", "([II)I"⟩ ⟨"PreferTable$Order", "putReduced", "([II)I"⟩ ∈ lw_tbl := ev_mem 723 (by decide +kernel)
theorem wd_724 : Cond.instanceMethod ⟨"PreferTable$Order", "putReduced", "([II)I"⟩ ∈ lw_tbl := ev_mem 724 (by decide +kernel)
theorem wd_725 : Cond.code ⟨"PreferTable$Order", "putReduced", "([II)I"⟩ prog_7_method_4_code 3 (Option.some Jvm.ClassFile.FieldType.int) ∈ lw_tbl := ev_mem 725 (by decide +kernel)
theorem wd_726 : Cond.methodLink "PreferTable$Order" 22 ⟨"PreferTable$Order", "putOwn", "([II)I"⟩ ∈ lw_tbl := ev_mem 726 (by decide +kernel)
theorem wd_727 : Cond.instanceMethod ⟨"PreferTable$Order", "putOwn", "([II)I"⟩ ∈ lw_tbl := ev_mem 727 (by decide +kernel)
theorem wd_728 : Cond.sameMethod "PreferTable$Order" "PreferTable$Order" "putOwn" "([II)I" ∈ lw_tbl := ev_mem 728 (by decide +kernel)
theorem wd_729 : Cond.selects "PreferTable$Graph" ⟨"PreferTable$Order", "putOwn", "([II)I"⟩ ⟨"PreferTable$Order", "putOwn", "([II)I"⟩ ∈ lw_tbl := ev_mem 729 (by decide +kernel)
theorem wd_730 : Cond.selects "PreferTable$Layers" ⟨"PreferTable$Order", "putOwn", "([II)I"⟩ ⟨"PreferTable$Order", "putOwn", "([II)I"⟩ ∈ lw_tbl := ev_mem 730 (by decide +kernel)
theorem wd_731 : Cond.selects "PreferTable$ValueOrder" ⟨"PreferTable$Order", "putOwn", "([II)I"⟩ ⟨"PreferTable$ValueOrder", "putOwn", "([II)I"⟩ ∈ lw_tbl := ev_mem 731 (by decide +kernel)
theorem wd_732 : Cond.instanceMethod ⟨"PreferTable$ValueOrder", "putOwn", "([II)I"⟩ ∈ lw_tbl := ev_mem 732 (by decide +kernel)
theorem wd_733 : Cond.code ⟨"PreferTable$ValueOrder", "putOwn", "([II)I"⟩ prog_12_method_4_code 3 (Option.some Jvm.ClassFile.FieldType.int) ∈ lw_tbl := ev_mem 733 (by decide +kernel)
theorem wd_734 : Cond.code ⟨"PreferTable$Order", "putOwn", "([II)I"⟩ prog_7_method_5_code 3 (Option.some Jvm.ClassFile.FieldType.int) ∈ lw_tbl := ev_mem 734 (by decide +kernel)
theorem wd_735 : Cond.selects "PreferTable$Layers" ⟨"PreferTable$Node", "putReduced", "([II)I"⟩ ⟨"PreferTable$Order", "putReduced", "([II)I"⟩ ∈ lw_tbl := ev_mem 735 (by decide +kernel)
theorem wd_736 : Cond.selects "PreferTable$Term" ⟨"PreferTable$Node", "putReduced", "([II)I"⟩ ⟨"PreferTable$Term", "putReduced", "([II)I"⟩ ∈ lw_tbl := ev_mem 736 (by decide +kernel)
theorem wd_737 : Cond.instanceMethod ⟨"PreferTable$Term", "putReduced", "([II)I"⟩ ∈ lw_tbl := ev_mem 737 (by decide +kernel)
theorem wd_738 : Cond.code ⟨"PreferTable$Term", "putReduced", "([II)I"⟩ prog_11_method_7_code 5 (Option.some Jvm.ClassFile.FieldType.int) ∈ lw_tbl := ev_mem 738 (by decide +kernel)
theorem wd_739 : Cond.methodLink "PreferTable$Term" 44 ⟨"PreferTable$Node", "putReduced", "([II)I"⟩ ∈ lw_tbl := ev_mem 739 (by decide +kernel)
theorem wd_740 : Cond.methodLink "PreferTable$Term" 48 ⟨"PreferTable$Term", "reduceDual", "([III)I"⟩ ∈ lw_tbl := ev_mem 740 (by decide +kernel)
theorem wd_741 : Cond.static ⟨"PreferTable$Term", "reduceDual", "([III)I"⟩ ∈ lw_tbl := ev_mem 741 (by decide +kernel)
theorem wd_742 : Cond.code ⟨"PreferTable$Term", "reduceDual", "([III)I"⟩ prog_11_method_8_code 4 (Option.some Jvm.ClassFile.FieldType.int) ∈ lw_tbl := ev_mem 742 (by decide +kernel)
theorem wd_743 : Cond.methodLink "PreferTable$Term" 60 ⟨"PreferTable$Term", "moveBack", "([IIII)I"⟩ ∈ lw_tbl := ev_mem 743 (by decide +kernel)
theorem wd_744 : Cond.static ⟨"PreferTable$Term", "moveBack", "([IIII)I"⟩ ∈ lw_tbl := ev_mem 744 (by decide +kernel)
theorem wd_745 : Cond.code ⟨"PreferTable$Term", "moveBack", "([IIII)I"⟩ prog_11_method_12_code 4 (Option.some Jvm.ClassFile.FieldType.int) ∈ lw_tbl := ev_mem 745 (by decide +kernel)
theorem wd_746 : Cond.methodLink "PreferTable$Term" 67 ⟨"java/lang/System", "arraycopy", "(Ljava/lang/Object;ILjava/lang/Object;II)V"⟩ ∈ lw_tbl := ev_mem 746 (by decide +kernel)
theorem wd_747 : Cond.methodLink "PreferTable$Term" 52 ⟨"PreferTable$Term", "areAlike", "([IIII)Z"⟩ ∈ lw_tbl := ev_mem 747 (by decide +kernel)
theorem wd_748 : Cond.static ⟨"PreferTable$Term", "areAlike", "([IIII)Z"⟩ ∈ lw_tbl := ev_mem 748 (by decide +kernel)
theorem wd_749 : Cond.code ⟨"PreferTable$Term", "areAlike", "([IIII)Z"⟩ prog_11_method_9_code 6 (Option.some Jvm.ClassFile.FieldType.boolean) ∈ lw_tbl := ev_mem 749 (by decide +kernel)
theorem wd_750 : Cond.methodLink "PreferTable$Term" 56 ⟨"PreferTable$Term", "pDecidesAlone", "()Z"⟩ ∈ lw_tbl := ev_mem 750 (by decide +kernel)
theorem wd_752 : Cond.instanceMethod ⟨"PreferTable$Term", "pDecidesAlone", "()Z"⟩ ∈ lw_tbl := ev_mem 752 (by decide +kernel)
theorem wd_753 : Cond.code ⟨"PreferTable$Term", "pDecidesAlone", "()Z"⟩ prog_11_method_10_code 1 (Option.some Jvm.ClassFile.FieldType.boolean) ∈ lw_tbl := ev_mem 753 (by decide +kernel)
theorem wd_754 : Cond.methodLink "PreferTable$Term" 64 ⟨"PreferTable$Term", "pullDualOut", "([IIII)I"⟩ ∈ lw_tbl := ev_mem 754 (by decide +kernel)
theorem wd_755 : Cond.static ⟨"PreferTable$Term", "pullDualOut", "([IIII)I"⟩ ∈ lw_tbl := ev_mem 755 (by decide +kernel)
theorem wd_756 : Cond.code ⟨"PreferTable$Term", "pullDualOut", "([IIII)I"⟩ prog_11_method_11_code 4 (Option.some Jvm.ClassFile.FieldType.int) ∈ lw_tbl := ev_mem 756 (by decide +kernel)
theorem wd_757 : Cond.selects "PreferTable$ValueOrder" ⟨"PreferTable$Node", "putReduced", "([II)I"⟩ ⟨"PreferTable$Order", "putReduced", "([II)I"⟩ ∈ lw_tbl := ev_mem 757 (by decide +kernel)
theorem wd_758 : Cond.methodLink "PreferTableLaw" 150 ⟨"PreferTableLaw", "form", "(LPreferTable;I[J)I"⟩ ∈ lw_tbl := ev_mem 758 (by decide +kernel)
theorem wd_759 : Cond.static ⟨"PreferTableLaw", "form", "(LPreferTable;I[J)I"⟩ ∈ lw_tbl := ev_mem 759 (by decide +kernel)
theorem wd_760 : Cond.codeWith ⟨"PreferTableLaw", "form", "(LPreferTable;I[J)I"⟩ method_17_code 4 (Option.some Jvm.ClassFile.FieldType.int) [(0, 9, 12, 19)] ∈ lw_tbl := ev_mem 760 (by decide +kernel)
theorem wd_761 : Cond.methodLink "PreferTableLaw" 62 ⟨"PreferTable", "form", "(I)I"⟩ ∈ lw_tbl := ev_mem 761 (by decide +kernel)
theorem wd_762 : Cond.instanceMethod ⟨"PreferTable", "form", "(I)I"⟩ ∈ lw_tbl := ev_mem 762 (by decide +kernel)
theorem wd_763 : Cond.selects "PreferTable" ⟨"PreferTable", "form", "(I)I"⟩ ⟨"PreferTable", "form", "(I)I"⟩ ∈ lw_tbl := ev_mem 763 (by decide +kernel)
theorem wd_764 : Cond.code ⟨"PreferTable", "form", "(I)I"⟩ prog_1_method_23_code 2 (Option.some Jvm.ClassFile.FieldType.int) ∈ lw_tbl := ev_mem 764 (by decide +kernel)
theorem wd_766 : Cond.classLink "PreferTableLaw" 66 "PreferTableModel" ∈ lw_tbl := ev_mem 766 (by decide +kernel)
theorem wd_767 : Cond.instantiable "PreferTableModel" 34 ∈ lw_tbl := ev_mem 767 (by decide +kernel)
theorem wd_768 : Cond.methodLink "PreferTableLaw" 68 ⟨"PreferTableModel", "<init>", "()V"⟩ ∈ lw_tbl := ev_mem 768 (by decide +kernel)
theorem wd_769 : Cond.instanceMethod ⟨"PreferTableModel", "<init>", "()V"⟩ ∈ lw_tbl := ev_mem 769 (by decide +kernel)
theorem wd_770 : Cond.code ⟨"PreferTableModel", "<init>", "()V"⟩ prog_14_method_1_code 1 Option.none ∈ lw_tbl := ev_mem 770 (by decide +kernel)
theorem wd_771 : Cond.methodLink "PreferTableModel" 1 ⟨"java/lang/Object", "<init>", "()V"⟩ ∈ lw_tbl := ev_mem 771 (by decide +kernel)
theorem wd_772 : Cond.fieldLink "PreferTableModel" 95 "PreferTableModel" "thrown" "I" ∈ lw_tbl := ev_mem 772 (by decide +kernel)
theorem wd_773 : Cond.fieldLink "PreferTableModel" 99 "PreferTableModel" "rows" "I" ∈ lw_tbl := ev_mem 773 (by decide +kernel)
theorem wd_774 : Cond.fieldLink "PreferTableModel" 7 "PreferTableModel" "there" "[Z" ∈ lw_tbl := ev_mem 774 (by decide +kernel)
theorem wd_775 : Cond.fieldLink "PreferTableModel" 13 "PreferTableModel" "value" "[I" ∈ lw_tbl := ev_mem 775 (by decide +kernel)
theorem wd_776 : Cond.fieldLink "PreferTableModel" 102 "PreferTableModel" "nodes" "I" ∈ lw_tbl := ev_mem 776 (by decide +kernel)
theorem wd_777 : Cond.fieldLink "PreferTableModel" 17 "PreferTableModel" "kind" "[I" ∈ lw_tbl := ev_mem 777 (by decide +kernel)
theorem wd_778 : Cond.fieldLink "PreferTableModel" 20 "PreferTableModel" "column" "[I" ∈ lw_tbl := ev_mem 778 (by decide +kernel)
theorem wd_779 : Cond.fieldLink "PreferTableModel" 23 "PreferTableModel" "left" "[I" ∈ lw_tbl := ev_mem 779 (by decide +kernel)
theorem wd_780 : Cond.fieldLink "PreferTableModel" 26 "PreferTableModel" "right" "[I" ∈ lw_tbl := ev_mem 780 (by decide +kernel)
theorem wd_781 : Cond.fieldLink "PreferTableModel" 29 "PreferTableModel" "size" "[I" ∈ lw_tbl := ev_mem 781 (by decide +kernel)
theorem wd_782 : Cond.fieldLink "PreferTableModel" 32 "PreferTableModel" "layer" "[I" ∈ lw_tbl := ev_mem 782 (by decide +kernel)
theorem wd_783 : Cond.fieldLink "PreferTableModel" 35 "PreferTableModel" "edges" "[I" ∈ lw_tbl := ev_mem 783 (by decide +kernel)
theorem wd_784 : Cond.fieldLink "PreferTableModel" 38 "PreferTableModel" "says" "[I" ∈ lw_tbl := ev_mem 784 (by decide +kernel)
theorem wd_785 : Cond.fieldLink "PreferTableModel" 41 "PreferTableModel" "conditions" "[I" ∈ lw_tbl := ev_mem 785 (by decide +kernel)
theorem wd_786 : Cond.fieldLink "PreferTableModel" 44 "PreferTableModel" "on" "[I" ∈ lw_tbl := ev_mem 786 (by decide +kernel)
theorem wd_787 : Cond.fieldLink "PreferTableModel" 47 "PreferTableModel" "operation" "[I" ∈ lw_tbl := ev_mem 787 (by decide +kernel)
theorem wd_788 : Cond.fieldLink "PreferTableModel" 50 "PreferTableModel" "than" "[I" ∈ lw_tbl := ev_mem 788 (by decide +kernel)
theorem wd_789 : Cond.fieldLink "PreferTableModel" 53 "PreferTableModel" "isSaved" "[Z" ∈ lw_tbl := ev_mem 789 (by decide +kernel)
theorem wd_790 : Cond.fieldLink "PreferTableModel" 56 "PreferTableModel" "question" "[I" ∈ lw_tbl := ev_mem 790 (by decide +kernel)
theorem wd_791 : Cond.fieldLink "PreferTableModel" 59 "PreferTableModel" "seen" "[Z" ∈ lw_tbl := ev_mem 791 (by decide +kernel)
theorem wd_792 : Cond.fieldLink "PreferTableModel" 62 "PreferTableModel" "best" "[Z" ∈ lw_tbl := ev_mem 792 (by decide +kernel)
theorem wd_793 : Cond.fieldLink "PreferTableModel" 65 "PreferTableModel" "level" "[I" ∈ lw_tbl := ev_mem 793 (by decide +kernel)
theorem wd_794 : Cond.fieldLink "PreferTableModel" 163 "PreferTableModel" "answers" "I" ∈ lw_tbl := ev_mem 794 (by decide +kernel)
theorem wd_795 : Cond.fieldLink "PreferTableModel" 68 "PreferTableModel" "answer" "[I" ∈ lw_tbl := ev_mem 795 (by decide +kernel)
theorem wd_796 : Cond.fieldLink "PreferTableModel" 180 "PreferTableModel" "made" "I" ∈ lw_tbl := ev_mem 796 (by decide +kernel)
theorem wd_797 : Cond.fieldLink "PreferTableModel" 71 "PreferTableModel" "madeKind" "[I" ∈ lw_tbl := ev_mem 797 (by decide +kernel)
theorem wd_798 : Cond.fieldLink "PreferTableModel" 74 "PreferTableModel" "madeColumn" "[I" ∈ lw_tbl := ev_mem 798 (by decide +kernel)
theorem wd_799 : Cond.fieldLink "PreferTableModel" 77 "PreferTableModel" "madeA" "[I" ∈ lw_tbl := ev_mem 799 (by decide +kernel)
theorem wd_800 : Cond.fieldLink "PreferTableModel" 80 "PreferTableModel" "madeB" "[I" ∈ lw_tbl := ev_mem 800 (by decide +kernel)
theorem wd_801 : Cond.fieldLink "PreferTableModel" 83 "PreferTableModel" "madeOf" "[I" ∈ lw_tbl := ev_mem 801 (by decide +kernel)
theorem wd_802 : Cond.fieldLink "PreferTableModel" 86 "PreferTableModel" "become" "[I" ∈ lw_tbl := ev_mem 802 (by decide +kernel)
theorem wd_803 : Cond.fieldLink "PreferTableModel" 190 "PreferTableModel" "forms" "I" ∈ lw_tbl := ev_mem 803 (by decide +kernel)
theorem wd_804 : Cond.fieldLink "PreferTableModel" 89 "PreferTableModel" "form" "[I" ∈ lw_tbl := ev_mem 804 (by decide +kernel)
theorem wd_805 : Cond.fieldLink "PreferTableModel" 92 "PreferTableModel" "wait" "[I" ∈ lw_tbl := ev_mem 805 (by decide +kernel)
theorem wd_876 : Cond.methodLink "PreferTableLaw" 75 ⟨"PreferTableModel", "thrown", "()I"⟩ ∈ lw_tbl := ev_mem 876 (by decide +kernel)
theorem wd_877 : Cond.instanceMethod ⟨"PreferTableModel", "thrown", "()I"⟩ ∈ lw_tbl := ev_mem 877 (by decide +kernel)
theorem wd_878 : Cond.selects "PreferTableModel" ⟨"PreferTableModel", "thrown", "()I"⟩ ⟨"PreferTableModel", "thrown", "()I"⟩ ∈ lw_tbl := ev_mem 878 (by decide +kernel)
theorem wd_879 : Cond.code ⟨"PreferTableModel", "thrown", "()I"⟩ prog_14_method_2_code 1 (Option.some Jvm.ClassFile.FieldType.int) ∈ lw_tbl := ev_mem 879 (by decide +kernel)
theorem wd_880 : Cond.methodLink "PreferTableLaw" 74 ⟨"PreferTableModel", "row", "(IIII)I"⟩ ∈ lw_tbl := ev_mem 880 (by decide +kernel)
theorem wd_881 : Cond.instanceMethod ⟨"PreferTableModel", "row", "(IIII)I"⟩ ∈ lw_tbl := ev_mem 881 (by decide +kernel)
theorem wd_882 : Cond.selects "PreferTableModel" ⟨"PreferTableModel", "row", "(IIII)I"⟩ ⟨"PreferTableModel", "row", "(IIII)I"⟩ ∈ lw_tbl := ev_mem 882 (by decide +kernel)
theorem wd_883 : Cond.code ⟨"PreferTableModel", "row", "(IIII)I"⟩ prog_14_method_7_code 5 (Option.some Jvm.ClassFile.FieldType.int) ∈ lw_tbl := ev_mem 883 (by decide +kernel)
theorem wd_884 : Cond.methodLink "PreferTableModel" 105 ⟨"PreferTableModel", "present", "()I"⟩ ∈ lw_tbl := ev_mem 884 (by decide +kernel)
theorem wd_886 : Cond.instanceMethod ⟨"PreferTableModel", "present", "()I"⟩ ∈ lw_tbl := ev_mem 886 (by decide +kernel)
theorem wd_887 : Cond.code ⟨"PreferTableModel", "present", "()I"⟩ prog_14_method_6_code 3 (Option.some Jvm.ClassFile.FieldType.int) ∈ lw_tbl := ev_mem 887 (by decide +kernel)
theorem wd_888 : Cond.methodLink "PreferTableLaw" 82 ⟨"PreferTableModel", "change", "(III)Z"⟩ ∈ lw_tbl := ev_mem 888 (by decide +kernel)
theorem wd_889 : Cond.instanceMethod ⟨"PreferTableModel", "change", "(III)Z"⟩ ∈ lw_tbl := ev_mem 889 (by decide +kernel)
theorem wd_890 : Cond.selects "PreferTableModel" ⟨"PreferTableModel", "change", "(III)Z"⟩ ⟨"PreferTableModel", "change", "(III)Z"⟩ ∈ lw_tbl := ev_mem 890 (by decide +kernel)
theorem wd_891 : Cond.code ⟨"PreferTableModel", "change", "(III)Z"⟩ prog_14_method_8_code 4 (Option.some Jvm.ClassFile.FieldType.boolean) ∈ lw_tbl := ev_mem 891 (by decide +kernel)
theorem wd_892 : Cond.methodLink "PreferTableModel" 109 ⟨"PreferTableModel", "isRow", "(I)Z"⟩ ∈ lw_tbl := ev_mem 892 (by decide +kernel)
theorem wd_894 : Cond.instanceMethod ⟨"PreferTableModel", "isRow", "(I)Z"⟩ ∈ lw_tbl := ev_mem 894 (by decide +kernel)
theorem wd_895 : Cond.code ⟨"PreferTableModel", "isRow", "(I)Z"⟩ prog_14_method_3_code 2 (Option.some Jvm.ClassFile.FieldType.boolean) ∈ lw_tbl := ev_mem 895 (by decide +kernel)
theorem wd_896 : Cond.methodLink "PreferTableModel" 113 ⟨"PreferTableModel", "isColumn", "(I)Z"⟩ ∈ lw_tbl := ev_mem 896 (by decide +kernel)
theorem wd_897 : Cond.static ⟨"PreferTableModel", "isColumn", "(I)Z"⟩ ∈ lw_tbl := ev_mem 897 (by decide +kernel)
theorem wd_898 : Cond.code ⟨"PreferTableModel", "isColumn", "(I)Z"⟩ prog_14_method_4_code 1 (Option.some Jvm.ClassFile.FieldType.boolean) ∈ lw_tbl := ev_mem 898 (by decide +kernel)
theorem wd_899 : Cond.methodLink "PreferTableLaw" 87 ⟨"PreferTableModel", "remove", "(I)Z"⟩ ∈ lw_tbl := ev_mem 899 (by decide +kernel)
theorem wd_900 : Cond.instanceMethod ⟨"PreferTableModel", "remove", "(I)Z"⟩ ∈ lw_tbl := ev_mem 900 (by decide +kernel)
theorem wd_901 : Cond.selects "PreferTableModel" ⟨"PreferTableModel", "remove", "(I)Z"⟩ ⟨"PreferTableModel", "remove", "(I)Z"⟩ ∈ lw_tbl := ev_mem 901 (by decide +kernel)
theorem wd_902 : Cond.code ⟨"PreferTableModel", "remove", "(I)Z"⟩ prog_14_method_9_code 2 (Option.some Jvm.ClassFile.FieldType.boolean) ∈ lw_tbl := ev_mem 902 (by decide +kernel)
theorem wd_903 : Cond.methodLink "PreferTableLaw" 91 ⟨"PreferTableModel", "value", "(II)I"⟩ ∈ lw_tbl := ev_mem 903 (by decide +kernel)
theorem wd_904 : Cond.instanceMethod ⟨"PreferTableModel", "value", "(II)I"⟩ ∈ lw_tbl := ev_mem 904 (by decide +kernel)
theorem wd_905 : Cond.selects "PreferTableModel" ⟨"PreferTableModel", "value", "(II)I"⟩ ⟨"PreferTableModel", "value", "(II)I"⟩ ∈ lw_tbl := ev_mem 905 (by decide +kernel)
theorem wd_906 : Cond.code ⟨"PreferTableModel", "value", "(II)I"⟩ prog_14_method_10_code 3 (Option.some Jvm.ClassFile.FieldType.int) ∈ lw_tbl := ev_mem 906 (by decide +kernel)
theorem wd_907 : Cond.methodLink "PreferTableLaw" 94 ⟨"PreferTableModel", "order", "(IIII)I"⟩ ∈ lw_tbl := ev_mem 907 (by decide +kernel)
theorem wd_908 : Cond.instanceMethod ⟨"PreferTableModel", "order", "(IIII)I"⟩ ∈ lw_tbl := ev_mem 908 (by decide +kernel)
theorem wd_909 : Cond.selects "PreferTableModel" ⟨"PreferTableModel", "order", "(IIII)I"⟩ ⟨"PreferTableModel", "order", "(IIII)I"⟩ ∈ lw_tbl := ev_mem 909 (by decide +kernel)
theorem wd_910 : Cond.code ⟨"PreferTableModel", "order", "(IIII)I"⟩ prog_14_method_11_code 6 (Option.some Jvm.ClassFile.FieldType.int) ∈ lw_tbl := ev_mem 910 (by decide +kernel)
theorem wd_911 : Cond.methodLink "PreferTableLaw" 98 ⟨"PreferTableModel", "layer", "(III)Z"⟩ ∈ lw_tbl := ev_mem 911 (by decide +kernel)
theorem wd_912 : Cond.instanceMethod ⟨"PreferTableModel", "layer", "(III)Z"⟩ ∈ lw_tbl := ev_mem 912 (by decide +kernel)
theorem wd_913 : Cond.selects "PreferTableModel" ⟨"PreferTableModel", "layer", "(III)Z"⟩ ⟨"PreferTableModel", "layer", "(III)Z"⟩ ∈ lw_tbl := ev_mem 913 (by decide +kernel)
theorem wd_914 : Cond.code ⟨"PreferTableModel", "layer", "(III)Z"⟩ prog_14_method_13_code 4 (Option.some Jvm.ClassFile.FieldType.boolean) ∈ lw_tbl := ev_mem 914 (by decide +kernel)
theorem wd_915 : Cond.methodLink "PreferTableModel" 116 ⟨"PreferTableModel", "isNode", "(I)Z"⟩ ∈ lw_tbl := ev_mem 915 (by decide +kernel)
theorem wd_917 : Cond.instanceMethod ⟨"PreferTableModel", "isNode", "(I)Z"⟩ ∈ lw_tbl := ev_mem 917 (by decide +kernel)
theorem wd_918 : Cond.code ⟨"PreferTableModel", "isNode", "(I)Z"⟩ prog_14_method_5_code 2 (Option.some Jvm.ClassFile.FieldType.boolean) ∈ lw_tbl := ev_mem 918 (by decide +kernel)
theorem wd_919 : Cond.methodLink "PreferTableModel" 119 ⟨"PreferTableModel", "isPlain", "(I)Z"⟩ ∈ lw_tbl := ev_mem 919 (by decide +kernel)
theorem wd_920 : Cond.static ⟨"PreferTableModel", "isPlain", "(I)Z"⟩ ∈ lw_tbl := ev_mem 920 (by decide +kernel)
theorem wd_921 : Cond.code ⟨"PreferTableModel", "isPlain", "(I)Z"⟩ prog_14_method_12_code 1 (Option.some Jvm.ClassFile.FieldType.boolean) ∈ lw_tbl := ev_mem 921 (by decide +kernel)
theorem wd_922 : Cond.methodLink "PreferTableLaw" 102 ⟨"PreferTableModel", "edge", "(III)Z"⟩ ∈ lw_tbl := ev_mem 922 (by decide +kernel)
theorem wd_923 : Cond.instanceMethod ⟨"PreferTableModel", "edge", "(III)Z"⟩ ∈ lw_tbl := ev_mem 923 (by decide +kernel)
theorem wd_924 : Cond.selects "PreferTableModel" ⟨"PreferTableModel", "edge", "(III)Z"⟩ ⟨"PreferTableModel", "edge", "(III)Z"⟩ ∈ lw_tbl := ev_mem 924 (by decide +kernel)
theorem wd_925 : Cond.code ⟨"PreferTableModel", "edge", "(III)Z"⟩ prog_14_method_15_code 4 (Option.some Jvm.ClassFile.FieldType.boolean) ∈ lw_tbl := ev_mem 925 (by decide +kernel)
theorem wd_926 : Cond.methodLink "PreferTableModel" 122 ⟨"PreferTableModel", "reached", "(II)I"⟩ ∈ lw_tbl := ev_mem 926 (by decide +kernel)
theorem wd_928 : Cond.instanceMethod ⟨"PreferTableModel", "reached", "(II)I"⟩ ∈ lw_tbl := ev_mem 928 (by decide +kernel)
theorem wd_929 : Cond.code ⟨"PreferTableModel", "reached", "(II)I"⟩ prog_14_method_14_code 6 (Option.some Jvm.ClassFile.FieldType.int) ∈ lw_tbl := ev_mem 929 (by decide +kernel)
theorem wd_930 : Cond.methodLink "PreferTableLaw" 105 ⟨"PreferTableModel", "term", "(III)I"⟩ ∈ lw_tbl := ev_mem 930 (by decide +kernel)
theorem wd_931 : Cond.instanceMethod ⟨"PreferTableModel", "term", "(III)I"⟩ ∈ lw_tbl := ev_mem 931 (by decide +kernel)
theorem wd_932 : Cond.selects "PreferTableModel" ⟨"PreferTableModel", "term", "(III)I"⟩ ⟨"PreferTableModel", "term", "(III)I"⟩ ∈ lw_tbl := ev_mem 932 (by decide +kernel)
theorem wd_933 : Cond.code ⟨"PreferTableModel", "term", "(III)I"⟩ prog_14_method_16_code 5 (Option.some Jvm.ClassFile.FieldType.int) ∈ lw_tbl := ev_mem 933 (by decide +kernel)
theorem wd_934 : Cond.methodLink "PreferTableLaw" 115 ⟨"PreferTableModel", "compare", "(III)I"⟩ ∈ lw_tbl := ev_mem 934 (by decide +kernel)
theorem wd_935 : Cond.instanceMethod ⟨"PreferTableModel", "compare", "(III)I"⟩ ∈ lw_tbl := ev_mem 935 (by decide +kernel)
theorem wd_936 : Cond.selects "PreferTableModel" ⟨"PreferTableModel", "compare", "(III)I"⟩ ⟨"PreferTableModel", "compare", "(III)I"⟩ ∈ lw_tbl := ev_mem 936 (by decide +kernel)
theorem wd_937 : Cond.code ⟨"PreferTableModel", "compare", "(III)I"⟩ prog_14_method_25_code 4 (Option.some Jvm.ClassFile.FieldType.int) ∈ lw_tbl := ev_mem 937 (by decide +kernel)
theorem wd_938 : Cond.methodLink "PreferTableModel" 152 ⟨"PreferTableModel", "say", "(III)I"⟩ ∈ lw_tbl := ev_mem 938 (by decide +kernel)
theorem wd_940 : Cond.instanceMethod ⟨"PreferTableModel", "say", "(III)I"⟩ ∈ lw_tbl := ev_mem 940 (by decide +kernel)
theorem wd_941 : Cond.code ⟨"PreferTableModel", "say", "(III)I"⟩ prog_14_method_24_code 5 (Option.some Jvm.ClassFile.FieldType.int) ∈ lw_tbl := ev_mem 941 (by decide +kernel)
theorem wd_942 : Cond.methodLink "PreferTableModel" 146 ⟨"PreferTableModel", "ordered", "(III)I"⟩ ∈ lw_tbl := ev_mem 942 (by decide +kernel)
theorem wd_944 : Cond.instanceMethod ⟨"PreferTableModel", "ordered", "(III)I"⟩ ∈ lw_tbl := ev_mem 944 (by decide +kernel)
theorem wd_945 : Cond.code ⟨"PreferTableModel", "ordered", "(III)I"⟩ prog_14_method_21_code 4 (Option.some Jvm.ClassFile.FieldType.int) ∈ lw_tbl := ev_mem 945 (by decide +kernel)
theorem wd_946 : Cond.methodLink "PreferTableModel" 128 ⟨"PreferTableModel", "byLess", "(JJ)I"⟩ ∈ lw_tbl := ev_mem 946 (by decide +kernel)
theorem wd_947 : Cond.static ⟨"PreferTableModel", "byLess", "(JJ)I"⟩ ∈ lw_tbl := ev_mem 947 (by decide +kernel)
theorem wd_948 : Cond.code ⟨"PreferTableModel", "byLess", "(JJ)I"⟩ prog_14_method_17_code 4 (Option.some Jvm.ClassFile.FieldType.int) ∈ lw_tbl := ev_mem 948 (by decide +kernel)
theorem wd_949 : Cond.methodLink "PreferTableModel" 132 ⟨"PreferTableModel", "depth", "(II)J"⟩ ∈ lw_tbl := ev_mem 949 (by decide +kernel)
theorem wd_951 : Cond.instanceMethod ⟨"PreferTableModel", "depth", "(II)J"⟩ ∈ lw_tbl := ev_mem 951 (by decide +kernel)
theorem wd_952 : Cond.code ⟨"PreferTableModel", "depth", "(II)J"⟩ prog_14_method_20_code 4 (Option.some Jvm.ClassFile.FieldType.long) ∈ lw_tbl := ev_mem 952 (by decide +kernel)
theorem wd_954 : Cond.methodLink "PreferTableModel" 136 ⟨"PreferTableModel", "graph", "(III)I"⟩ ∈ lw_tbl := ev_mem 954 (by decide +kernel)
theorem wd_956 : Cond.instanceMethod ⟨"PreferTableModel", "graph", "(III)I"⟩ ∈ lw_tbl := ev_mem 956 (by decide +kernel)
theorem wd_957 : Cond.code ⟨"PreferTableModel", "graph", "(III)I"⟩ prog_14_method_19_code 4 (Option.some Jvm.ClassFile.FieldType.int) ∈ lw_tbl := ev_mem 957 (by decide +kernel)
theorem wd_958 : Cond.methodLink "PreferTableModel" 140 ⟨"PreferTableModel", "distance", "(II)J"⟩ ∈ lw_tbl := ev_mem 958 (by decide +kernel)
theorem wd_960 : Cond.instanceMethod ⟨"PreferTableModel", "distance", "(II)J"⟩ ∈ lw_tbl := ev_mem 960 (by decide +kernel)
theorem wd_961 : Cond.code ⟨"PreferTableModel", "distance", "(II)J"⟩ prog_14_method_18_code 7 (Option.some Jvm.ClassFile.FieldType.long) ∈ lw_tbl := ev_mem 961 (by decide +kernel)
theorem wd_962 : Cond.methodLink "PreferTableModel" 149 ⟨"PreferTableModel", "joined", "(III)I"⟩ ∈ lw_tbl := ev_mem 962 (by decide +kernel)
theorem wd_964 : Cond.instanceMethod ⟨"PreferTableModel", "joined", "(III)I"⟩ ∈ lw_tbl := ev_mem 964 (by decide +kernel)
theorem wd_965 : Cond.code ⟨"PreferTableModel", "joined", "(III)I"⟩ prog_14_method_23_code 5 (Option.some Jvm.ClassFile.FieldType.int) ∈ lw_tbl := ev_mem 965 (by decide +kernel)
theorem wd_966 : Cond.methodLink "PreferTableModel" 143 ⟨"PreferTableModel", "pareto", "(II)I"⟩ ∈ lw_tbl := ev_mem 966 (by decide +kernel)
theorem wd_967 : Cond.static ⟨"PreferTableModel", "pareto", "(II)I"⟩ ∈ lw_tbl := ev_mem 967 (by decide +kernel)
theorem wd_968 : Cond.code ⟨"PreferTableModel", "pareto", "(II)I"⟩ prog_14_method_22_code 2 (Option.some Jvm.ClassFile.FieldType.int) ∈ lw_tbl := ev_mem 968 (by decide +kernel)
theorem wd_969 : Cond.methodLink "PreferTableLaw" 108 ⟨"PreferTableModel", "condition", "(III)I"⟩ ∈ lw_tbl := ev_mem 969 (by decide +kernel)
theorem wd_970 : Cond.instanceMethod ⟨"PreferTableModel", "condition", "(III)I"⟩ ∈ lw_tbl := ev_mem 970 (by decide +kernel)
theorem wd_971 : Cond.selects "PreferTableModel" ⟨"PreferTableModel", "condition", "(III)I"⟩ ⟨"PreferTableModel", "condition", "(III)I"⟩ ∈ lw_tbl := ev_mem 971 (by decide +kernel)
theorem wd_972 : Cond.code ⟨"PreferTableModel", "condition", "(III)I"⟩ prog_14_method_26_code 5 (Option.some Jvm.ClassFile.FieldType.int) ∈ lw_tbl := ev_mem 972 (by decide +kernel)
theorem wd_973 : Cond.methodLink "PreferTableLaw" 112 ⟨"PreferTableModel", "free", "()V"⟩ ∈ lw_tbl := ev_mem 973 (by decide +kernel)
theorem wd_974 : Cond.instanceMethod ⟨"PreferTableModel", "free", "()V"⟩ ∈ lw_tbl := ev_mem 974 (by decide +kernel)
theorem wd_975 : Cond.selects "PreferTableModel" ⟨"PreferTableModel", "free", "()V"⟩ ⟨"PreferTableModel", "free", "()V"⟩ ∈ lw_tbl := ev_mem 975 (by decide +kernel)
theorem wd_976 : Cond.code ⟨"PreferTableModel", "free", "()V"⟩ prog_14_method_27_code 1 Option.none ∈ lw_tbl := ev_mem 976 (by decide +kernel)
theorem wd_977 : Cond.methodLink "PreferTableLaw" 119 ⟨"PreferTableModel", "best", "(I)I"⟩ ∈ lw_tbl := ev_mem 977 (by decide +kernel)
theorem wd_978 : Cond.instanceMethod ⟨"PreferTableModel", "best", "(I)I"⟩ ∈ lw_tbl := ev_mem 978 (by decide +kernel)
theorem wd_979 : Cond.selects "PreferTableModel" ⟨"PreferTableModel", "best", "(I)I"⟩ ⟨"PreferTableModel", "best", "(I)I"⟩ ∈ lw_tbl := ev_mem 979 (by decide +kernel)
theorem wd_980 : Cond.code ⟨"PreferTableModel", "best", "(I)I"⟩ prog_14_method_32_code 3 (Option.some Jvm.ClassFile.FieldType.int) ∈ lw_tbl := ev_mem 980 (by decide +kernel)
theorem wd_981 : Cond.methodLink "PreferTableModel" 166 ⟨"PreferTableModel", "mark", "(III)I"⟩ ∈ lw_tbl := ev_mem 981 (by decide +kernel)
theorem wd_983 : Cond.instanceMethod ⟨"PreferTableModel", "mark", "(III)I"⟩ ∈ lw_tbl := ev_mem 983 (by decide +kernel)
theorem wd_984 : Cond.code ⟨"PreferTableModel", "mark", "(III)I"⟩ prog_14_method_30_code 8 (Option.some Jvm.ClassFile.FieldType.int) ∈ lw_tbl := ev_mem 984 (by decide +kernel)
theorem wd_985 : Cond.methodLink "PreferTableModel" 159 ⟨"PreferTableModel", "passes", "(II)Z"⟩ ∈ lw_tbl := ev_mem 985 (by decide +kernel)
theorem wd_987 : Cond.instanceMethod ⟨"PreferTableModel", "passes", "(II)Z"⟩ ∈ lw_tbl := ev_mem 987 (by decide +kernel)
theorem wd_988 : Cond.code ⟨"PreferTableModel", "passes", "(II)Z"⟩ prog_14_method_29_code 5 (Option.some Jvm.ClassFile.FieldType.boolean) ∈ lw_tbl := ev_mem 988 (by decide +kernel)
theorem wd_989 : Cond.methodLink "PreferTableModel" 155 ⟨"PreferTableModel", "holds", "(III)Z"⟩ ∈ lw_tbl := ev_mem 989 (by decide +kernel)
theorem wd_990 : Cond.static ⟨"PreferTableModel", "holds", "(III)Z"⟩ ∈ lw_tbl := ev_mem 990 (by decide +kernel)
theorem wd_991 : Cond.code ⟨"PreferTableModel", "holds", "(III)Z"⟩ prog_14_method_28_code 3 (Option.some Jvm.ClassFile.FieldType.boolean) ∈ lw_tbl := ev_mem 991 (by decide +kernel)
theorem wd_992 : Cond.methodLink "PreferTableModel" 169 ⟨"PreferTableModel", "answerBest", "()I"⟩ ∈ lw_tbl := ev_mem 992 (by decide +kernel)
theorem wd_994 : Cond.instanceMethod ⟨"PreferTableModel", "answerBest", "()I"⟩ ∈ lw_tbl := ev_mem 994 (by decide +kernel)
theorem wd_995 : Cond.code ⟨"PreferTableModel", "answerBest", "()I"⟩ prog_14_method_31_code 2 (Option.some Jvm.ClassFile.FieldType.int) ∈ lw_tbl := ev_mem 995 (by decide +kernel)
theorem wd_996 : Cond.methodLink "PreferTableLaw" 122 ⟨"PreferTableModel", "grouped", "(II)I"⟩ ∈ lw_tbl := ev_mem 996 (by decide +kernel)
theorem wd_997 : Cond.instanceMethod ⟨"PreferTableModel", "grouped", "(II)I"⟩ ∈ lw_tbl := ev_mem 997 (by decide +kernel)
theorem wd_998 : Cond.selects "PreferTableModel" ⟨"PreferTableModel", "grouped", "(II)I"⟩ ⟨"PreferTableModel", "grouped", "(II)I"⟩ ∈ lw_tbl := ev_mem 998 (by decide +kernel)
theorem wd_999 : Cond.code ⟨"PreferTableModel", "grouped", "(II)I"⟩ prog_14_method_33_code 4 (Option.some Jvm.ClassFile.FieldType.int) ∈ lw_tbl := ev_mem 999 (by decide +kernel)
theorem wd_1000 : Cond.methodLink "PreferTableLaw" 125 ⟨"PreferTableModel", "top", "(II)I"⟩ ∈ lw_tbl := ev_mem 1000 (by decide +kernel)
theorem wd_1001 : Cond.instanceMethod ⟨"PreferTableModel", "top", "(II)I"⟩ ∈ lw_tbl := ev_mem 1001 (by decide +kernel)
theorem wd_1002 : Cond.selects "PreferTableModel" ⟨"PreferTableModel", "top", "(II)I"⟩ ⟨"PreferTableModel", "top", "(II)I"⟩ ∈ lw_tbl := ev_mem 1002 (by decide +kernel)
theorem wd_1003 : Cond.code ⟨"PreferTableModel", "top", "(II)I"⟩ prog_14_method_35_code 5 (Option.some Jvm.ClassFile.FieldType.int) ∈ lw_tbl := ev_mem 1003 (by decide +kernel)
theorem wd_1004 : Cond.methodLink "PreferTableModel" 172 ⟨"PreferTableModel", "weigh", "(I)V"⟩ ∈ lw_tbl := ev_mem 1004 (by decide +kernel)
theorem wd_1006 : Cond.instanceMethod ⟨"PreferTableModel", "weigh", "(I)V"⟩ ∈ lw_tbl := ev_mem 1006 (by decide +kernel)
theorem wd_1007 : Cond.code ⟨"PreferTableModel", "weigh", "(I)V"⟩ prog_14_method_34_code 6 Option.none ∈ lw_tbl := ev_mem 1007 (by decide +kernel)
theorem wd_1008 : Cond.methodLink "PreferTableLaw" 128 ⟨"PreferTableModel", "level", "(II)I"⟩ ∈ lw_tbl := ev_mem 1008 (by decide +kernel)
theorem wd_1009 : Cond.instanceMethod ⟨"PreferTableModel", "level", "(II)I"⟩ ∈ lw_tbl := ev_mem 1009 (by decide +kernel)
theorem wd_1010 : Cond.selects "PreferTableModel" ⟨"PreferTableModel", "level", "(II)I"⟩ ⟨"PreferTableModel", "level", "(II)I"⟩ ∈ lw_tbl := ev_mem 1010 (by decide +kernel)
theorem wd_1011 : Cond.code ⟨"PreferTableModel", "level", "(II)I"⟩ prog_14_method_36_code 3 (Option.some Jvm.ClassFile.FieldType.int) ∈ lw_tbl := ev_mem 1011 (by decide +kernel)
theorem wd_1012 : Cond.methodLink "PreferTableLaw" 132 ⟨"PreferTableModel", "answer", "(I)I"⟩ ∈ lw_tbl := ev_mem 1012 (by decide +kernel)
theorem wd_1013 : Cond.instanceMethod ⟨"PreferTableModel", "answer", "(I)I"⟩ ∈ lw_tbl := ev_mem 1013 (by decide +kernel)
theorem wd_1014 : Cond.selects "PreferTableModel" ⟨"PreferTableModel", "answer", "(I)I"⟩ ⟨"PreferTableModel", "answer", "(I)I"⟩ ∈ lw_tbl := ev_mem 1014 (by decide +kernel)
theorem wd_1015 : Cond.code ⟨"PreferTableModel", "answer", "(I)I"⟩ prog_14_method_37_code 2 (Option.some Jvm.ClassFile.FieldType.int) ∈ lw_tbl := ev_mem 1015 (by decide +kernel)
theorem wd_1016 : Cond.methodLink "PreferTableLaw" 135 ⟨"PreferTableModel", "reason", "(IIII)I"⟩ ∈ lw_tbl := ev_mem 1016 (by decide +kernel)
theorem wd_1017 : Cond.instanceMethod ⟨"PreferTableModel", "reason", "(IIII)I"⟩ ∈ lw_tbl := ev_mem 1017 (by decide +kernel)
theorem wd_1018 : Cond.selects "PreferTableModel" ⟨"PreferTableModel", "reason", "(IIII)I"⟩ ⟨"PreferTableModel", "reason", "(IIII)I"⟩ ∈ lw_tbl := ev_mem 1018 (by decide +kernel)
theorem wd_1019 : Cond.code ⟨"PreferTableModel", "reason", "(IIII)I"⟩ prog_14_method_38_code 12 (Option.some Jvm.ClassFile.FieldType.int) ∈ lw_tbl := ev_mem 1019 (by decide +kernel)
theorem wd_1020 : Cond.methodLink "PreferTableLaw" 138 ⟨"PreferTableModel", "save", "(II)I"⟩ ∈ lw_tbl := ev_mem 1020 (by decide +kernel)
theorem wd_1021 : Cond.instanceMethod ⟨"PreferTableModel", "save", "(II)I"⟩ ∈ lw_tbl := ev_mem 1021 (by decide +kernel)
theorem wd_1022 : Cond.selects "PreferTableModel" ⟨"PreferTableModel", "save", "(II)I"⟩ ⟨"PreferTableModel", "save", "(II)I"⟩ ∈ lw_tbl := ev_mem 1022 (by decide +kernel)
theorem wd_1023 : Cond.code ⟨"PreferTableModel", "save", "(II)I"⟩ prog_14_method_40_code 4 (Option.some Jvm.ClassFile.FieldType.int) ∈ lw_tbl := ev_mem 1023 (by decide +kernel)
theorem wd_1024 : Cond.methodLink "PreferTableModel" 176 ⟨"PreferTableModel", "readNow", "(I)I"⟩ ∈ lw_tbl := ev_mem 1024 (by decide +kernel)
theorem wd_1026 : Cond.instanceMethod ⟨"PreferTableModel", "readNow", "(I)I"⟩ ∈ lw_tbl := ev_mem 1026 (by decide +kernel)
theorem wd_1027 : Cond.code ⟨"PreferTableModel", "readNow", "(I)I"⟩ prog_14_method_39_code 4 (Option.some Jvm.ClassFile.FieldType.int) ∈ lw_tbl := ev_mem 1027 (by decide +kernel)
theorem wd_1028 : Cond.methodLink "PreferTableLaw" 142 ⟨"PreferTableModel", "saved", "(III)I"⟩ ∈ lw_tbl := ev_mem 1028 (by decide +kernel)
theorem wd_1029 : Cond.instanceMethod ⟨"PreferTableModel", "saved", "(III)I"⟩ ∈ lw_tbl := ev_mem 1029 (by decide +kernel)
theorem wd_1030 : Cond.selects "PreferTableModel" ⟨"PreferTableModel", "saved", "(III)I"⟩ ⟨"PreferTableModel", "saved", "(III)I"⟩ ∈ lw_tbl := ev_mem 1030 (by decide +kernel)
theorem wd_1031 : Cond.code ⟨"PreferTableModel", "saved", "(III)I"⟩ prog_14_method_41_code 9 (Option.some Jvm.ClassFile.FieldType.int) ∈ lw_tbl := ev_mem 1031 (by decide +kernel)
theorem wd_1032 : Cond.methodLink "PreferTableLaw" 146 ⟨"PreferTableModel", "read", "(I)Z"⟩ ∈ lw_tbl := ev_mem 1032 (by decide +kernel)
theorem wd_1033 : Cond.instanceMethod ⟨"PreferTableModel", "read", "(I)Z"⟩ ∈ lw_tbl := ev_mem 1033 (by decide +kernel)
theorem wd_1034 : Cond.selects "PreferTableModel" ⟨"PreferTableModel", "read", "(I)Z"⟩ ⟨"PreferTableModel", "read", "(I)Z"⟩ ∈ lw_tbl := ev_mem 1034 (by decide +kernel)
theorem wd_1035 : Cond.code ⟨"PreferTableModel", "read", "(I)Z"⟩ prog_14_method_42_code 3 (Option.some Jvm.ClassFile.FieldType.boolean) ∈ lw_tbl := ev_mem 1035 (by decide +kernel)
theorem wd_1036 : Cond.methodLink "PreferTableLaw" 149 ⟨"PreferTableModel", "reduce", "(I)I"⟩ ∈ lw_tbl := ev_mem 1036 (by decide +kernel)
theorem wd_1037 : Cond.instanceMethod ⟨"PreferTableModel", "reduce", "(I)I"⟩ ∈ lw_tbl := ev_mem 1037 (by decide +kernel)
theorem wd_1038 : Cond.selects "PreferTableModel" ⟨"PreferTableModel", "reduce", "(I)I"⟩ ⟨"PreferTableModel", "reduce", "(I)I"⟩ ∈ lw_tbl := ev_mem 1038 (by decide +kernel)
theorem wd_1039 : Cond.code ⟨"PreferTableModel", "reduce", "(I)I"⟩ prog_14_method_49_code 3 (Option.some Jvm.ClassFile.FieldType.int) ∈ lw_tbl := ev_mem 1039 (by decide +kernel)
theorem wd_1040 : Cond.methodLink "PreferTableModel" 196 ⟨"PreferTableModel", "reducedOrder", "(I)I"⟩ ∈ lw_tbl := ev_mem 1040 (by decide +kernel)
theorem wd_1042 : Cond.instanceMethod ⟨"PreferTableModel", "reducedOrder", "(I)I"⟩ ∈ lw_tbl := ev_mem 1042 (by decide +kernel)
theorem wd_1043 : Cond.code ⟨"PreferTableModel", "reducedOrder", "(I)I"⟩ prog_14_method_44_code 4 (Option.some Jvm.ClassFile.FieldType.int) ∈ lw_tbl := ev_mem 1043 (by decide +kernel)
theorem wd_1044 : Cond.methodLink "PreferTableModel" 183 ⟨"PreferTableModel", "place", "(IIII)I"⟩ ∈ lw_tbl := ev_mem 1044 (by decide +kernel)
theorem wd_1046 : Cond.instanceMethod ⟨"PreferTableModel", "place", "(IIII)I"⟩ ∈ lw_tbl := ev_mem 1046 (by decide +kernel)
theorem wd_1047 : Cond.code ⟨"PreferTableModel", "place", "(IIII)I"⟩ prog_14_method_43_code 6 (Option.some Jvm.ClassFile.FieldType.int) ∈ lw_tbl := ev_mem 1047 (by decide +kernel)
theorem wd_1048 : Cond.methodLink "PreferTableModel" 199 ⟨"PreferTableModel", "reducedTerm", "(III)I"⟩ ∈ lw_tbl := ev_mem 1048 (by decide +kernel)
theorem wd_1050 : Cond.instanceMethod ⟨"PreferTableModel", "reducedTerm", "(III)I"⟩ ∈ lw_tbl := ev_mem 1050 (by decide +kernel)
theorem wd_1051 : Cond.code ⟨"PreferTableModel", "reducedTerm", "(III)I"⟩ prog_14_method_46_code 5 (Option.some Jvm.ClassFile.FieldType.int) ∈ lw_tbl := ev_mem 1051 (by decide +kernel)
theorem wd_1052 : Cond.methodLink "PreferTableModel" 187 ⟨"PreferTableModel", "dual", "(I)I"⟩ ∈ lw_tbl := ev_mem 1052 (by decide +kernel)
theorem wd_1054 : Cond.instanceMethod ⟨"PreferTableModel", "dual", "(I)I"⟩ ∈ lw_tbl := ev_mem 1054 (by decide +kernel)
theorem wd_1055 : Cond.code ⟨"PreferTableModel", "dual", "(I)I"⟩ prog_14_method_45_code 3 (Option.some Jvm.ClassFile.FieldType.int) ∈ lw_tbl := ev_mem 1055 (by decide +kernel)
theorem wd_1056 : Cond.methodLink "PreferTableModel" 202 ⟨"PreferTableModel", "write", "(I)V"⟩ ∈ lw_tbl := ev_mem 1056 (by decide +kernel)
theorem wd_1058 : Cond.instanceMethod ⟨"PreferTableModel", "write", "(I)V"⟩ ∈ lw_tbl := ev_mem 1058 (by decide +kernel)
theorem wd_1059 : Cond.code ⟨"PreferTableModel", "write", "(I)V"⟩ prog_14_method_48_code 5 Option.none ∈ lw_tbl := ev_mem 1059 (by decide +kernel)
theorem wd_1060 : Cond.methodLink "PreferTableModel" 193 ⟨"PreferTableModel", "emit", "(I)V"⟩ ∈ lw_tbl := ev_mem 1060 (by decide +kernel)
theorem wd_1062 : Cond.instanceMethod ⟨"PreferTableModel", "emit", "(I)V"⟩ ∈ lw_tbl := ev_mem 1062 (by decide +kernel)
theorem wd_1063 : Cond.code ⟨"PreferTableModel", "emit", "(I)V"⟩ prog_14_method_47_code 2 Option.none ∈ lw_tbl := ev_mem 1063 (by decide +kernel)
theorem wd_1064 : Cond.methodLink "PreferTableLaw" 152 ⟨"PreferTableModel", "form", "(I)I"⟩ ∈ lw_tbl := ev_mem 1064 (by decide +kernel)
theorem wd_1065 : Cond.instanceMethod ⟨"PreferTableModel", "form", "(I)I"⟩ ∈ lw_tbl := ev_mem 1065 (by decide +kernel)
theorem wd_1066 : Cond.selects "PreferTableModel" ⟨"PreferTableModel", "form", "(I)I"⟩ ⟨"PreferTableModel", "form", "(I)I"⟩ ∈ lw_tbl := ev_mem 1066 (by decide +kernel)
theorem wd_1067 : Cond.code ⟨"PreferTableModel", "form", "(I)I"⟩ prog_14_method_50_code 2 (Option.some Jvm.ClassFile.FieldType.int) ∈ lw_tbl := ev_mem 1067 (by decide +kernel)
theorem wd_objcode : Cond.code Lib.objectInit ⟨#[0xb1]⟩ 1 none ∈ lw_tbl := ev_mem 28 (by decide +kernel)
end
section
/-! Decode tables (written by gen_lean.py). -/
def tb_PT_init_0 : ev_tab := [(0, .aload_n 0, 1, 1), (1, .invokespecial 3, 3, 4), (4, .aload_n 0, 1, 5), (5, .new 9, 3, 8), (8, .dup, 1, 9), (9, .invokespecial 11, 3, 12), (12, .putfield 12, 3, 15), (15, .aload_n 0, 1, 16), (16, .bipush 24, 2, 18), (18, .anewarray 16, 3, 21), (21, .putfield 18, 3, 24), (24, .aload_n 0, 1, 25), (25, .iconst 0, 1, 26), (26, .putfield 22, 3, 29), (29, .aload_n 0, 1, 30), (30, .new 26, 3, 33), (33, .dup, 1, 34), (34, .invokespecial 28, 3, 37), (37, .putfield 29, 3, 40), (40, .aload_n 0, 1, 41), (41, .new 33, 3, 44), (44, .dup, 1, 45), (45, .invokespecial 35, 3, 48), (48, .putfield 36, 3, 51), (51, .aload_n 0, 1, 52), (52, .new 40, 3, 55), (55, .dup, 1, 56), (56, .invokespecial 42, 3, 59), (59, .putfield 43, 3, 62), (62, .aload_n 0, 1, 63), (63, .new 40, 3, 66), (66, .dup, 1, 67), (67, .invokespecial 42, 3, 70), (70, .putfield 47, 3, 73), (73, .aload_n 0, 1, 74), (74, .iconst 4, 1, 75), (75, .anewarray 50, 3, 78), (78, .putfield 52, 3, 81), (81, .aload_n 0, 1, 82), (82, .iconst 0, 1, 83), (83, .putfield 56, 3, 86), (86, .aload_n 0, 1, 87), (87, .sipush 160, 3, 90), (90, .newarray .int, 2, 92), (92, .putfield 59, 3, 95), (95, .aload_n 0, 1, 96), (96, .iconst 0, 1, 97), (97, .putfield 63, 3, 100), (100, .iconst 0, 1, 101), (101, .istore_n 1, 1, 102), (102, .iload_n 1, 1, 103), (103, .iconst 4, 1, 104), (104, .if_icmp .ge 22, 3, 107), (107, .aload_n 0, 1, 108), (108, .getfield 52, 3, 111), (111, .iload_n 1, 1, 112), (112, .new 50, 3, 115), (115, .dup, 1, 116), (116, .invokespecial 66, 3, 119), (119, .aastore, 1, 120)]
theorem dt_PT_init_0 : ev_dall m_PT_init tb_PT_init_0 := by decide +kernel
def tb_PT_init_1 : ev_tab := [(120, .iinc 1 1, 3, 123), (123, .goto (-21), 3, 126), (126, .return_, 1, 127)]
theorem dt_PT_init_1 : ev_dall m_PT_init tb_PT_init_1 := by decide +kernel
def tb_Rows_init_0 : ev_tab := [(0, .aload_n 0, 1, 1), (1, .invokespecial 3, 3, 4), (4, .aload_n 0, 1, 5), (5, .bipush 24, 2, 7), (7, .newarray .int, 2, 9), (9, .putfield 9, 3, 12), (12, .aload_n 0, 1, 13), (13, .bipush 24, 2, 15), (15, .iconst 4, 1, 16), (16, .multianewarray 15 2, 4, 20), (20, .putfield 17, 3, 23), (23, .aload_n 0, 1, 24), (24, .iconst 0, 1, 25), (25, .putfield 20, 3, 28), (28, .aload_n 0, 1, 29), (29, .iconst 0, 1, 30), (30, .putfield 24, 3, 33), (33, .return_, 1, 34)]
theorem dt_Rows_init_0 : ev_dall m_Rows_init tb_Rows_init_0 := by decide +kernel
def tb_Conditions_init_0 : ev_tab := [(0, .aload_n 0, 1, 1), (1, .invokespecial 3, 3, 4), (4, .aload_n 0, 1, 5), (5, .iconst 4, 1, 6), (6, .newarray .int, 2, 8), (8, .putfield 9, 3, 11), (11, .aload_n 0, 1, 12), (12, .iconst 4, 1, 13), (13, .newarray .int, 2, 15), (15, .putfield 15, 3, 18), (18, .aload_n 0, 1, 19), (19, .iconst 4, 1, 20), (20, .newarray .int, 2, 22), (22, .putfield 18, 3, 25), (25, .aload_n 0, 1, 26), (26, .iconst 0, 1, 27), (27, .putfield 21, 3, 30), (30, .return_, 1, 31)]
theorem dt_Conditions_init_0 : ev_dall m_Conditions_init tb_Conditions_init_0 := by decide +kernel
def tb_Contest_init_0 : ev_tab := [(0, .aload_n 0, 1, 1), (1, .invokespecial 3, 3, 4), (4, .aload_n 0, 1, 5), (5, .bipush 24, 2, 7), (7, .newarray .int, 2, 9), (9, .putfield 9, 3, 12), (12, .aload_n 0, 1, 13), (13, .bipush 24, 2, 15), (15, .newarray .int, 2, 17), (17, .putfield 15, 3, 20), (20, .aload_n 0, 1, 21), (21, .iconst 0, 1, 22), (22, .putfield 18, 3, 25), (25, .return_, 1, 26)]
theorem dt_Contest_init_0 : ev_dall m_Contest_init tb_Contest_init_0 := by decide +kernel
def tb_RowList_init_0 : ev_tab := [(0, .aload_n 0, 1, 1), (1, .invokespecial 3, 3, 4), (4, .aload_n 0, 1, 5), (5, .bipush 24, 2, 7), (7, .newarray .int, 2, 9), (9, .putfield 9, 3, 12), (12, .aload_n 0, 1, 13), (13, .iconst 0, 1, 14), (14, .putfield 15, 3, 17), (17, .return_, 1, 18)]
theorem dt_RowList_init_0 : ev_dall m_RowList_init tb_RowList_init_0 := by decide +kernel
def tb_Question_init_0 : ev_tab := [(0, .aload_n 0, 1, 1), (1, .invokespecial 3, 3, 4), (4, .aload_n 0, 1, 5), (5, .aconst_null, 1, 6), (6, .putfield 9, 3, 9), (9, .aload_n 0, 1, 10), (10, .new 15, 3, 13), (13, .dup, 1, 14), (14, .invokespecial 17, 3, 17), (17, .putfield 18, 3, 20), (20, .aload_n 0, 1, 21), (21, .new 22, 3, 24), (24, .dup, 1, 25), (25, .invokespecial 24, 3, 28), (28, .putfield 25, 3, 31), (31, .aload_n 0, 1, 32), (32, .new 22, 3, 35), (35, .dup, 1, 36), (36, .invokespecial 24, 3, 39), (39, .putfield 29, 3, 42), (42, .aload_n 0, 1, 43), (43, .iconst (-1), 1, 44), (44, .putfield 32, 3, 47), (47, .return_, 1, 48)]
theorem dt_Question_init_0 : ev_dall m_Question_init tb_Question_init_0 := by decide +kernel
def tb_PT_change_0 : ev_tab := [(0, .aload_n 0, 1, 1), (1, .getfield 12, 3, 4), (4, .iload_n 1, 1, 5), (5, .invokevirtual 82, 3, 8), (8, .istore 4, 2, 10), (10, .iload 4, 2, 12), (12, .iconst (-1), 1, 13), (13, .if_icmp .eq 10, 3, 16), (16, .iload_n 2, 1, 17), (17, .invokestatic 86, 3, 20), (20, .ifCond .ne 5, 3, 23), (23, .iconst 0, 1, 24), (24, .ireturn, 1, 25), (25, .aload_n 0, 1, 26), (26, .getfield 12, 3, 29), (29, .getfield 90, 3, 32), (32, .iload 4, 2, 34), (34, .aaload, 1, 35), (35, .iload_n 2, 1, 36), (36, .iload_n 3, 1, 37), (37, .iastore, 1, 38), (38, .aload_n 0, 1, 39), (39, .dup, 1, 40), (40, .getfield 56, 3, 43), (43, .iconst 1, 1, 44), (44, .iadd, 1, 45), (45, .putfield 56, 3, 48), (48, .iconst 1, 1, 49), (49, .ireturn, 1, 50)]
theorem dt_PT_change_0 : ev_dall m_PT_change tb_PT_change_0 := by decide +kernel
def tb_Rows_placeOf_0 : ev_tab := [(0, .iconst 0, 1, 1), (1, .istore_n 2, 1, 2), (2, .iload_n 2, 1, 3), (3, .aload_n 0, 1, 4), (4, .getfield 20, 3, 7), (7, .if_icmp .ge 21, 3, 10), (10, .aload_n 0, 1, 11), (11, .getfield 9, 3, 14), (14, .iload_n 2, 1, 15), (15, .iaload, 1, 16), (16, .iload_n 1, 1, 17), (17, .if_icmp .ne 5, 3, 20), (20, .iload_n 2, 1, 21), (21, .ireturn, 1, 22), (22, .iinc 2 1, 3, 25), (25, .goto (-23), 3, 28), (28, .iconst (-1), 1, 29), (29, .ireturn, 1, 30)]
theorem dt_Rows_placeOf_0 : ev_dall m_Rows_placeOf tb_Rows_placeOf_0 := by decide +kernel
def tb_PT_isColumn_0 : ev_tab := [(0, .iload_n 0, 1, 1), (1, .ifCond .lt 12, 3, 4), (4, .iload_n 0, 1, 5), (5, .iconst 4, 1, 6), (6, .if_icmp .ge 7, 3, 9), (9, .iconst 1, 1, 10), (10, .goto 4, 3, 13), (13, .iconst 0, 1, 14), (14, .ireturn, 1, 15)]
theorem dt_PT_isColumn_0 : ev_dall m_PT_isColumn tb_PT_isColumn_0 := by decide +kernel
def tb_PT_remove_0 : ev_tab := [(0, .aload_n 0, 1, 1), (1, .getfield 12, 3, 4), (4, .iload_n 1, 1, 5), (5, .invokevirtual 82, 3, 8), (8, .istore_n 2, 1, 9), (9, .iload_n 2, 1, 10), (10, .iconst (-1), 1, 11), (11, .if_icmp .ne 5, 3, 14), (14, .iconst 0, 1, 15), (15, .ireturn, 1, 16), (16, .aload_n 0, 1, 17), (17, .getfield 12, 3, 20), (20, .iload_n 2, 1, 21), (21, .invokevirtual 94, 3, 24), (24, .aload_n 0, 1, 25), (25, .dup, 1, 26), (26, .getfield 56, 3, 29), (29, .iconst 1, 1, 30), (30, .iadd, 1, 31), (31, .putfield 56, 3, 34), (34, .iconst 1, 1, 35), (35, .ireturn, 1, 36)]
theorem dt_PT_remove_0 : ev_dall m_PT_remove tb_PT_remove_0 := by decide +kernel
def tb_Rows_drop_0 : ev_tab := [(0, .aload_n 0, 1, 1), (1, .dup, 1, 2), (2, .getfield 20, 3, 5), (5, .iconst 1, 1, 6), (6, .isub, 1, 7), (7, .putfield 20, 3, 10), (10, .iload_n 1, 1, 11), (11, .istore_n 2, 1, 12), (12, .iload_n 2, 1, 13), (13, .aload_n 0, 1, 14), (14, .getfield 20, 3, 17), (17, .if_icmp .ge 43, 3, 20), (20, .aload_n 0, 1, 21), (21, .getfield 9, 3, 24), (24, .iload_n 2, 1, 25), (25, .aload_n 0, 1, 26), (26, .getfield 9, 3, 29), (29, .iload_n 2, 1, 30), (30, .iconst 1, 1, 31), (31, .iadd, 1, 32), (32, .iaload, 1, 33), (33, .iastore, 1, 34), (34, .aload_n 0, 1, 35), (35, .getfield 17, 3, 38), (38, .iload_n 2, 1, 39), (39, .iconst 1, 1, 40), (40, .iadd, 1, 41), (41, .aaload, 1, 42), (42, .iconst 0, 1, 43), (43, .aload_n 0, 1, 44), (44, .getfield 17, 3, 47), (47, .iload_n 2, 1, 48), (48, .aaload, 1, 49), (49, .iconst 0, 1, 50), (50, .iconst 4, 1, 51), (51, .invokestatic 27, 3, 54), (54, .iinc 2 1, 3, 57), (57, .goto (-45), 3, 60), (60, .return_, 1, 61)]
theorem dt_Rows_drop_0 : ev_dall m_Rows_drop tb_Rows_drop_0 := by decide +kernel
def tb_PT_layer_0 : ev_tab := [(0, .aload_n 0, 1, 1), (1, .iload_n 1, 1, 2), (2, .invokevirtual 118, 3, 5), (5, .ifCond .eq 20, 3, 8), (8, .iload_n 2, 1, 9), (9, .invokestatic 121, 3, 12), (12, .ifCond .eq 13, 3, 15), (15, .iload_n 3, 1, 16), (16, .iconst (-1), 1, 17), (17, .if_icmp .lt 8, 3, 20), (20, .iload_n 3, 1, 21), (21, .iconst 5, 1, 22), (22, .if_icmp .le 5, 3, 25), (25, .iconst 0, 1, 26), (26, .ireturn, 1, 27), (27, .aload_n 0, 1, 28), (28, .getfield 18, 3, 31), (31, .iload_n 1, 1, 32), (32, .aaload, 1, 33), (33, .astore 5, 2, 35), (35, .aload 5, 2, 37), (37, .instanceof 124, 3, 40), (40, .ifCond .eq 30, 3, 43), (43, .aload 5, 2, 45), (45, .checkcast 124, 3, 48), (48, .astore 4, 2, 50), (50, .aload 4, 2, 52), (52, .getfield 126, 3, 55), (55, .iload_n 2, 1, 56), (56, .iload_n 3, 1, 57), (57, .iastore, 1, 58), (58, .aload_n 0, 1, 59), (59, .dup, 1, 60), (60, .getfield 56, 3, 63), (63, .iconst 1, 1, 64), (64, .iadd, 1, 65), (65, .putfield 56, 3, 68), (68, .iconst 1, 1, 69), (69, .ireturn, 1, 70), (70, .iconst 0, 1, 71), (71, .ireturn, 1, 72)]
theorem dt_PT_layer_0 : ev_dall m_PT_layer tb_PT_layer_0 := by decide +kernel
def tb_PT_isNode_0 : ev_tab := [(0, .iload_n 1, 1, 1), (1, .ifCond .lt 15, 3, 4), (4, .iload_n 1, 1, 5), (5, .aload_n 0, 1, 6), (6, .getfield 22, 3, 9), (9, .if_icmp .ge 7, 3, 12), (12, .iconst 1, 1, 13), (13, .goto 4, 3, 16), (16, .iconst 0, 1, 17), (17, .ireturn, 1, 18)]
theorem dt_PT_isNode_0 : ev_dall m_PT_isNode tb_PT_isNode_0 := by decide +kernel
def tb_PT_isGraded_0 : ev_tab := [(0, .iload_n 0, 1, 1), (1, .ifCond .lt 13, 3, 4), (4, .iload_n 0, 1, 5), (5, .bipush 10, 2, 7), (7, .if_icmp .ge 7, 3, 10), (10, .iconst 1, 1, 11), (11, .goto 4, 3, 14), (14, .iconst 0, 1, 15), (15, .ireturn, 1, 16)]
theorem dt_PT_isGraded_0 : ev_dall m_PT_isGraded tb_PT_isGraded_0 := by decide +kernel
def tb_PT_free_0 : ev_tab := [(0, .aload_n 0, 1, 1), (1, .getfield 29, 3, 4), (4, .invokevirtual 162, 3, 7), (7, .return_, 1, 8)]
theorem dt_PT_free_0 : ev_dall m_PT_free tb_PT_free_0 := by decide +kernel
def tb_Conditions_clear_0 : ev_tab := [(0, .aload_n 0, 1, 1), (1, .iconst 0, 1, 2), (2, .putfield 21, 3, 5), (5, .return_, 1, 6)]
theorem dt_Conditions_clear_0 : ev_dall m_Conditions_clear tb_Conditions_clear_0 := by decide +kernel
def tb_PT_answer_0 : ev_tab := [(0, .aload_n 0, 1, 1), (1, .getfield 43, 3, 4), (4, .aload_n 0, 1, 5), (5, .getfield 47, 3, 8), (8, .iload_n 1, 1, 9), (9, .invokevirtual 200, 3, 12), (12, .ireturn, 1, 13)]
theorem dt_PT_answer_0 : ev_dall m_PT_answer tb_PT_answer_0 := by decide +kernel
def tb_RowList_pick_0 : ev_tab := [(0, .iconst 0, 1, 1), (1, .istore_n 3, 1, 2), (2, .iconst 0, 1, 3), (3, .istore 4, 2, 5), (5, .iload 4, 2, 7), (7, .aload_n 0, 1, 8), (8, .getfield 15, 3, 11), (11, .if_icmp .ge 39, 3, 14), (14, .aload_n 1, 1, 15), (15, .aload_n 0, 1, 16), (16, .getfield 9, 3, 19), (19, .iload 4, 2, 21), (21, .iaload, 1, 22), (22, .invokevirtual 25, 3, 25), (25, .ifCond .ne 19, 3, 28), (28, .iload_n 3, 1, 29), (29, .iload_n 2, 1, 30), (30, .if_icmp .ne 11, 3, 33), (33, .aload_n 0, 1, 34), (34, .getfield 9, 3, 37), (37, .iload 4, 2, 39), (39, .iaload, 1, 40), (40, .ireturn, 1, 41), (41, .iinc 3 1, 3, 44), (44, .iinc 4 1, 3, 47), (47, .goto (-42), 3, 50), (50, .iload_n 2, 1, 51), (51, .iconst (-1), 1, 52), (52, .if_icmp .ne 7, 3, 55), (55, .iload_n 3, 1, 56), (56, .goto 4, 3, 59), (59, .iconst (-1), 1, 60), (60, .ireturn, 1, 61)]
theorem dt_RowList_pick_0 : ev_dall m_RowList_pick tb_RowList_pick_0 := by decide +kernel
def tb_RowList_has_0 : ev_tab := [(0, .iconst 0, 1, 1), (1, .istore_n 2, 1, 2), (2, .iload_n 2, 1, 3), (3, .aload_n 0, 1, 4), (4, .getfield 15, 3, 7), (7, .if_icmp .ge 21, 3, 10), (10, .aload_n 0, 1, 11), (11, .getfield 9, 3, 14), (14, .iload_n 2, 1, 15), (15, .iaload, 1, 16), (16, .iload_n 1, 1, 17), (17, .if_icmp .ne 5, 3, 20), (20, .iconst 1, 1, 21), (21, .ireturn, 1, 22), (22, .iinc 2 1, 3, 25), (25, .goto (-23), 3, 28), (28, .iconst 0, 1, 29), (29, .ireturn, 1, 30)]
theorem dt_RowList_has_0 : ev_dall m_RowList_has tb_RowList_has_0 := by decide +kernel
def tb_PT_saved_0 : ev_tab := [(0, .aload_n 0, 1, 1), (1, .iload_n 1, 1, 2), (2, .invokevirtual 224, 3, 5), (5, .ifCond .ne 5, 3, 8), (8, .iconst (-1), 1, 9), (9, .ireturn, 1, 10), (10, .aload_n 0, 1, 11), (11, .getfield 52, 3, 14), (14, .iload_n 1, 1, 15), (15, .aaload, 1, 16), (16, .astore 4, 2, 18), (18, .aload_n 0, 1, 19), (19, .aload 4, 2, 21), (21, .invokevirtual 227, 3, 24), (24, .iload_n 2, 1, 25), (25, .tableswitch 71 0 2 #[27, 41, 56], 27, 52), (52, .aload 4, 2, 54), (54, .getfield 221, 3, 57), (57, .aload_n 0, 1, 58), (58, .getfield 47, 3, 61), (61, .iload_n 3, 1, 62), (62, .invokevirtual 200, 3, 65), (65, .ireturn, 1, 66), (66, .aload 4, 2, 68), (68, .getfield 221, 3, 71), (71, .aload 4, 2, 73), (73, .getfield 230, 3, 76), (76, .iload_n 3, 1, 77), (77, .invokevirtual 200, 3, 80), (80, .ireturn, 1, 81), (81, .aload 4, 2, 83), (83, .getfield 230, 3, 86), (86, .aload 4, 2, 88), (88, .getfield 221, 3, 91), (91, .iload_n 3, 1, 92), (92, .invokevirtual 200, 3, 95), (95, .ireturn, 1, 96), (96, .iconst (-1), 1, 97), (97, .ireturn, 1, 98)]
theorem dt_PT_saved_0 : ev_dall m_PT_saved tb_PT_saved_0 := by decide +kernel
def tb_PT_isSaved_0 : ev_tab := [(0, .iload_n 1, 1, 1), (1, .invokestatic 208, 3, 4), (4, .ifCond .eq 19, 3, 7), (7, .aload_n 0, 1, 8), (8, .getfield 52, 3, 11), (11, .iload_n 1, 1, 12), (12, .aaload, 1, 13), (13, .getfield 239, 3, 16), (16, .ifnull 7, 3, 19), (19, .iconst 1, 1, 20), (20, .goto 4, 3, 23), (23, .iconst 0, 1, 24), (24, .ireturn, 1, 25)]
theorem dt_PT_isSaved_0 : ev_dall m_PT_isSaved tb_PT_isSaved_0 := by decide +kernel
def tb_PT_isQuestion_0 : ev_tab := [(0, .iload_n 0, 1, 1), (1, .ifCond .lt 12, 3, 4), (4, .iload_n 0, 1, 5), (5, .iconst 4, 1, 6), (6, .if_icmp .ge 7, 3, 9), (9, .iconst 1, 1, 10), (10, .goto 4, 3, 13), (13, .iconst 0, 1, 14), (14, .ireturn, 1, 15)]
theorem dt_PT_isQuestion_0 : ev_dall m_PT_isQuestion tb_PT_isQuestion_0 := by decide +kernel
def tb_PT_keepUp_0 : ev_tab := [(0, .aload_n 1, 1, 1), (1, .getfield 274, 3, 4), (4, .aload_n 0, 1, 5), (5, .getfield 56, 3, 8), (8, .if_icmp .ne 4, 3, 11), (11, .return_, 1, 12), (12, .aload_n 0, 1, 13), (13, .getfield 36, 3, 16), (16, .aload_n 0, 1, 17), (17, .getfield 12, 3, 20), (20, .aload_n 1, 1, 21), (21, .getfield 239, 3, 24), (24, .aload_n 1, 1, 25), (25, .getfield 277, 3, 28), (28, .invokevirtual 173, 3, 31), (31, .aload_n 0, 1, 32), (32, .getfield 36, 3, 35), (35, .aload_n 0, 1, 36), (36, .getfield 12, 3, 39), (39, .aload_n 1, 1, 40), (40, .getfield 221, 3, 43), (43, .invokevirtual 177, 3, 46), (46, .aload_n 1, 1, 47), (47, .aload_n 0, 1, 48), (48, .getfield 56, 3, 51), (51, .putfield 274, 3, 54), (54, .return_, 1, 55)]
theorem dt_PT_keepUp_0 : ev_dall m_PT_keepUp tb_PT_keepUp_0 := by decide +kernel
def tb_Contest_hold_0 : ev_tab := [(0, .aload_n 0, 1, 1), (1, .aload_n 1, 1, 2), (2, .aload_n 3, 1, 3), (3, .invokevirtual 22, 3, 6), (6, .iconst 0, 1, 7), (7, .istore 4, 2, 9), (9, .iload 4, 2, 11), (11, .aload_n 1, 1, 12), (12, .getfield 26, 3, 15), (15, .if_icmp .ge 80, 3, 18), (18, .iload 4, 2, 20), (20, .iconst 1, 1, 21), (21, .iadd, 1, 22), (22, .istore 5, 2, 24), (24, .iload 5, 2, 26), (26, .aload_n 1, 1, 27), (27, .getfield 26, 3, 30), (30, .if_icmp .ge 59, 3, 33), (33, .aload_n 0, 1, 34), (34, .getfield 18, 3, 37), (37, .iload 4, 2, 39), (39, .invokestatic 31, 3, 42), (42, .ifCond .eq 41, 3, 45), (45, .aload_n 0, 1, 46), (46, .getfield 18, 3, 49), (49, .iload 5, 2, 51), (51, .invokestatic 31, 3, 54), (54, .ifCond .eq 29, 3, 57), (57, .aload_n 0, 1, 58), (58, .iload 4, 2, 60), (60, .iload 5, 2, 62), (62, .aload_n 2, 1, 63), (63, .aload_n 1, 1, 64), (64, .getfield 35, 3, 67), (67, .iload 4, 2, 69), (69, .aaload, 1, 70), (70, .aload_n 1, 1, 71), (71, .getfield 35, 3, 74), (74, .iload 5, 2, 76), (76, .aaload, 1, 77), (77, .invokevirtual 39, 3, 80), (80, .invokevirtual 45, 3, 83), (83, .iinc 5 1, 3, 86), (86, .goto (-62), 3, 89), (89, .iinc 4 1, 3, 92), (92, .goto (-83), 3, 95), (95, .return_, 1, 96)]
theorem dt_Contest_hold_0 : ev_dall m_Contest_hold tb_Contest_hold_0 := by decide +kernel
def tb_Contest_letIn_0 : ev_tab := [(0, .aload_n 0, 1, 1), (1, .iconst 0, 1, 2), (2, .putfield 18, 3, 5), (5, .iconst 0, 1, 6), (6, .istore_n 3, 1, 7), (7, .iload_n 3, 1, 8), (8, .aload_n 1, 1, 9), (9, .getfield 26, 3, 12), (12, .if_icmp .ge 41, 3, 15), (15, .aload_n 0, 1, 16), (16, .getfield 9, 3, 19), (19, .iload_n 3, 1, 20), (20, .iconst 0, 1, 21), (21, .iastore, 1, 22), (22, .aload_n 2, 1, 23), (23, .aload_n 1, 1, 24), (24, .getfield 35, 3, 27), (27, .iload_n 3, 1, 28), (28, .aaload, 1, 29), (29, .invokevirtual 49, 3, 32), (32, .ifCond .eq 15, 3, 35), (35, .aload_n 0, 1, 36), (36, .dup, 1, 37), (37, .getfield 18, 3, 40), (40, .iconst 1, 1, 41), (41, .iload_n 3, 1, 42), (42, .ishl, 1, 43), (43, .ior, 1, 44), (44, .putfield 18, 3, 47), (47, .iinc 3 1, 3, 50), (50, .goto (-43), 3, 53), (53, .return_, 1, 54)]
theorem dt_Contest_letIn_0 : ev_dall m_Contest_letIn tb_Contest_letIn_0 := by decide +kernel
def tb_Conditions_pass_0 : ev_tab := [(0, .iconst 0, 1, 1), (1, .istore_n 2, 1, 2), (2, .iload_n 2, 1, 3), (3, .aload_n 0, 1, 4), (4, .getfield 21, 3, 7), (7, .if_icmp .ge 37, 3, 10), (10, .aload_n 1, 1, 11), (11, .aload_n 0, 1, 12), (12, .getfield 9, 3, 15), (15, .iload_n 2, 1, 16), (16, .iaload, 1, 17), (17, .iaload, 1, 18), (18, .aload_n 0, 1, 19), (19, .getfield 15, 3, 22), (22, .iload_n 2, 1, 23), (23, .iaload, 1, 24), (24, .aload_n 0, 1, 25), (25, .getfield 18, 3, 28), (28, .iload_n 2, 1, 29), (29, .iaload, 1, 30), (30, .invokestatic 32, 3, 33), (33, .ifCond .ne 5, 3, 36), (36, .iconst 0, 1, 37), (37, .ireturn, 1, 38), (38, .iinc 2 1, 3, 41), (41, .goto (-39), 3, 44), (44, .iconst 1, 1, 45), (45, .ireturn, 1, 46)]
theorem dt_Conditions_pass_0 : ev_dall m_Conditions_pass tb_Conditions_pass_0 := by decide +kernel
def tb_Conditions_holds_0 : ev_tab := [(0, .iload_n 1, 1, 1), (1, .tableswitch 90 0 4 #[35, 46, 57, 68, 79], 35, 36), (36, .iload_n 0, 1, 37), (37, .iload_n 2, 1, 38), (38, .if_icmp .ne 7, 3, 41), (41, .iconst 1, 1, 42), (42, .goto 4, 3, 45), (45, .iconst 0, 1, 46), (46, .ireturn, 1, 47), (47, .iload_n 0, 1, 48), (48, .iload_n 2, 1, 49), (49, .if_icmp .eq 7, 3, 52), (52, .iconst 1, 1, 53), (53, .goto 4, 3, 56), (56, .iconst 0, 1, 57), (57, .ireturn, 1, 58), (58, .iload_n 0, 1, 59), (59, .iload_n 2, 1, 60), (60, .if_icmp .ge 7, 3, 63), (63, .iconst 1, 1, 64), (64, .goto 4, 3, 67), (67, .iconst 0, 1, 68), (68, .ireturn, 1, 69), (69, .iload_n 0, 1, 70), (70, .iload_n 2, 1, 71), (71, .if_icmp .gt 7, 3, 74), (74, .iconst 1, 1, 75), (75, .goto 4, 3, 78), (78, .iconst 0, 1, 79), (79, .ireturn, 1, 80), (80, .iload_n 0, 1, 81), (81, .iload_n 2, 1, 82), (82, .if_icmp .le 7, 3, 85), (85, .iconst 1, 1, 86), (86, .goto 4, 3, 89), (89, .iconst 0, 1, 90), (90, .ireturn, 1, 91), (91, .iload_n 0, 1, 92), (92, .iload_n 2, 1, 93), (93, .if_icmp .lt 7, 3, 96), (96, .iconst 1, 1, 97), (97, .goto 4, 3, 100), (100, .iconst 0, 1, 101), (101, .ireturn, 1, 102)]
theorem dt_Conditions_holds_0 : ev_dall m_Conditions_holds tb_Conditions_holds_0 := by decide +kernel
def tb_Contest_isIn_0 : ev_tab := [(0, .iload_n 0, 1, 1), (1, .iload_n 1, 1, 2), (2, .ishr, 1, 3), (3, .iconst 1, 1, 4), (4, .iand, 1, 5), (5, .iconst 1, 1, 6), (6, .if_icmp .ne 7, 3, 9), (9, .iconst 1, 1, 10), (10, .goto 4, 3, 13), (13, .iconst 0, 1, 14), (14, .ireturn, 1, 15)]
theorem dt_Contest_isIn_0 : ev_dall m_Contest_isIn tb_Contest_isIn_0 := by decide +kernel
def tb_Order_says_0 : ev_tab := [(0, .aload_n 1, 1, 1), (1, .aload_n 0, 1, 2), (2, .getfield 9, 3, 5), (5, .iaload, 1, 6), (6, .istore_n 3, 1, 7), (7, .aload_n 2, 1, 8), (8, .aload_n 0, 1, 9), (9, .getfield 9, 3, 12), (12, .iaload, 1, 13), (13, .istore 4, 2, 15), (15, .iload_n 3, 1, 16), (16, .iload 4, 2, 18), (18, .if_icmp .ne 5, 3, 21), (21, .iconst 3, 1, 22), (22, .ireturn, 1, 23), (23, .aload_n 0, 1, 24), (24, .iload_n 3, 1, 25), (25, .iload 4, 2, 27), (27, .invokevirtual 15, 3, 30), (30, .ifCond .eq 5, 3, 33), (33, .iconst 1, 1, 34), (34, .ireturn, 1, 35), (35, .aload_n 0, 1, 36), (36, .iload 4, 2, 38), (38, .iload_n 3, 1, 39), (39, .invokevirtual 15, 3, 42), (42, .ifCond .eq 7, 3, 45), (45, .iconst 2, 1, 46), (46, .goto 4, 3, 49), (49, .iconst 0, 1, 50), (50, .ireturn, 1, 51)]
theorem dt_Order_says_0 : ev_dall m_Order_says tb_Order_says_0 := by decide +kernel
def tb_Graph_prefers_0 : ev_tab := [(0, .iload_n 1, 1, 1), (1, .invokestatic 18, 3, 4), (4, .ifCond .eq 23, 3, 7), (7, .iload_n 2, 1, 8), (8, .invokestatic 18, 3, 11), (11, .ifCond .eq 16, 3, 14), (14, .aload_n 0, 1, 15), (15, .iload_n 1, 1, 16), (16, .iload_n 2, 1, 17), (17, .invokevirtual 22, 3, 20), (20, .ifCond .eq 7, 3, 23), (23, .iconst 1, 1, 24), (24, .goto 4, 3, 27), (27, .iconst 0, 1, 28), (28, .ireturn, 1, 29)]
theorem dt_Graph_prefers_0 : ev_dall m_Graph_prefers tb_Graph_prefers_0 := by decide +kernel
def tb_Graph_leads_0 : ev_tab := [(0, .aload_n 0, 1, 1), (1, .getfield 15, 3, 4), (4, .iload_n 1, 1, 5), (5, .iaload, 1, 6), (6, .iload_n 2, 1, 7), (7, .ishr, 1, 8), (8, .iconst 1, 1, 9), (9, .iand, 1, 10), (10, .iconst 1, 1, 11), (11, .if_icmp .ne 7, 3, 14), (14, .iconst 1, 1, 15), (15, .goto 4, 3, 18), (18, .iconst 0, 1, 19), (19, .ireturn, 1, 20)]
theorem dt_Graph_leads_0 : ev_dall m_Graph_leads tb_Graph_leads_0 := by decide +kernel
def tb_Layers_prefers_0 : ev_tab := [(0, .aload_n 0, 1, 1), (1, .iload_n 1, 1, 2), (2, .invokevirtual 15, 3, 5), (5, .istore_n 3, 1, 6), (6, .aload_n 0, 1, 7), (7, .iload_n 2, 1, 8), (8, .invokevirtual 15, 3, 11), (11, .istore 4, 2, 13), (13, .iload_n 3, 1, 14), (14, .iconst (-1), 1, 15), (15, .if_icmp .eq 19, 3, 18), (18, .iload 4, 2, 20), (20, .iconst (-1), 1, 21), (21, .if_icmp .eq 9, 3, 24), (24, .iload 4, 2, 26), (26, .iload_n 3, 1, 27), (27, .if_icmp .le 7, 3, 30), (30, .iconst 1, 1, 31), (31, .goto 4, 3, 34), (34, .iconst 0, 1, 35), (35, .ireturn, 1, 36)]
theorem dt_Layers_prefers_0 : ev_dall m_Layers_prefers tb_Layers_prefers_0 := by decide +kernel
def tb_Layers_find_0 : ev_tab := [(0, .iload_n 1, 1, 1), (1, .invokestatic 19, 3, 4), (4, .ifCond .eq 12, 3, 7), (7, .aload_n 0, 1, 8), (8, .getfield 9, 3, 11), (11, .iload_n 1, 1, 12), (12, .iaload, 1, 13), (13, .goto 4, 3, 16), (16, .iconst (-1), 1, 17), (17, .ireturn, 1, 18)]
theorem dt_Layers_find_0 : ev_dall m_Layers_find tb_Layers_find_0 := by decide +kernel
def tb_ValueOrder_prefers_0 : ev_tab := [(0, .aload_n 0, 1, 1), (1, .getfield 18, 3, 4), (4, .lookupswitch 50 #[(0, 28), (1, 39)], 28, 32), (32, .iload_n 1, 1, 33), (33, .iload_n 2, 1, 34), (34, .if_icmp .ge 7, 3, 37), (37, .iconst 1, 1, 38), (38, .goto 4, 3, 41), (41, .iconst 0, 1, 42), (42, .ireturn, 1, 43), (43, .iload_n 1, 1, 44), (44, .iload_n 2, 1, 45), (45, .if_icmp .le 7, 3, 48), (48, .iconst 1, 1, 49), (49, .goto 4, 3, 52), (52, .iconst 0, 1, 53), (53, .ireturn, 1, 54), (54, .aload_n 0, 1, 55), (55, .iload_n 1, 1, 56), (56, .invokevirtual 21, 3, 59), (59, .aload_n 0, 1, 60), (60, .iload_n 2, 1, 61), (61, .invokevirtual 21, 3, 64), (64, .lcmp, 1, 65), (65, .ifCond .ge 7, 3, 68), (68, .iconst 1, 1, 69), (69, .goto 4, 3, 72), (72, .iconst 0, 1, 73), (73, .ireturn, 1, 74)]
theorem dt_ValueOrder_prefers_0 : ev_dall m_ValueOrder_prefers tb_ValueOrder_prefers_0 := by decide +kernel
def tb_ValueOrder_distance_0 : ev_tab := [(0, .iload_n 1, 1, 1), (1, .aload_n 0, 1, 2), (2, .getfield 9, 3, 5), (5, .if_icmp .ge 12, 3, 8), (8, .aload_n 0, 1, 9), (9, .getfield 9, 3, 12), (12, .i2l, 1, 13), (13, .iload_n 1, 1, 14), (14, .i2l, 1, 15), (15, .lsub, 1, 16), (16, .lreturn, 1, 17), (17, .iload_n 1, 1, 18), (18, .aload_n 0, 1, 19), (19, .getfield 15, 3, 22), (22, .if_icmp .le 14, 3, 25), (25, .iload_n 1, 1, 26), (26, .i2l, 1, 27), (27, .aload_n 0, 1, 28), (28, .getfield 15, 3, 31), (31, .i2l, 1, 32), (32, .lsub, 1, 33), (33, .goto 4, 3, 36), (36, .lconst 0, 1, 37), (37, .lreturn, 1, 38)]
theorem dt_ValueOrder_distance_0 : ev_dall m_ValueOrder_distance tb_ValueOrder_distance_0 := by decide +kernel
def tb_Term_says_0 : ev_tab := [(0, .aload_n 0, 1, 1), (1, .getfield 19, 3, 4), (4, .aload_n 1, 1, 5), (5, .aload_n 2, 1, 6), (6, .invokevirtual 29, 3, 9), (9, .istore_n 3, 1, 10), (10, .aload_n 0, 1, 11), (11, .getfield 33, 3, 14), (14, .bipush 9, 2, 16), (16, .if_icmp .ne 8, 3, 19), (19, .iload_n 3, 1, 20), (20, .invokestatic 36, 3, 23), (23, .ireturn, 1, 24), (24, .aload_n 0, 1, 25), (25, .getfield 33, 3, 28), (28, .bipush 7, 2, 30), (30, .if_icmp .ne 22, 3, 33), (33, .iload_n 3, 1, 34), (34, .iconst 3, 1, 35), (35, .if_icmp .ne 15, 3, 38), (38, .aload_n 0, 1, 39), (39, .getfield 23, 3, 42), (42, .aload_n 1, 1, 43), (43, .aload_n 2, 1, 44), (44, .invokevirtual 29, 3, 47), (47, .goto 4, 3, 50), (50, .iload_n 3, 1, 51), (51, .ireturn, 1, 52), (52, .aload_n 0, 1, 53), (53, .getfield 23, 3, 56), (56, .aload_n 1, 1, 57), (57, .aload_n 2, 1, 58), (58, .invokevirtual 29, 3, 61), (61, .istore 4, 2, 63), (63, .iload_n 3, 1, 64), (64, .iload 4, 2, 66), (66, .if_icmp .ne 5, 3, 69), (69, .iload_n 3, 1, 70), (70, .ireturn, 1, 71), (71, .aload_n 0, 1, 72), (72, .getfield 33, 3, 75), (75, .bipush 6, 2, 77), (77, .if_icmp .ne 12, 3, 80), (80, .iload_n 3, 1, 81), (81, .iload 4, 2, 83), (83, .invokestatic 40, 3, 86), (86, .goto 4, 3, 89), (89, .iconst 0, 1, 90), (90, .ireturn, 1, 91)]
theorem dt_Term_says_0 : ev_dall m_Term_says tb_Term_says_0 := by decide +kernel
def tb_Term_changedOver_0 : ev_tab := [(0, .iload_n 0, 1, 1), (1, .iconst 1, 1, 2), (2, .if_icmp .ne 5, 3, 5), (5, .iconst 2, 1, 6), (6, .ireturn, 1, 7), (7, .iload_n 0, 1, 8), (8, .iconst 2, 1, 9), (9, .if_icmp .ne 7, 3, 12), (12, .iconst 1, 1, 13), (13, .goto 4, 3, 16), (16, .iload_n 0, 1, 17), (17, .ireturn, 1, 18)]
theorem dt_Term_changedOver_0 : ev_dall m_Term_changedOver tb_Term_changedOver_0 := by decide +kernel
def tb_Term_paretoOf_0 : ev_tab := [(0, .iload_n 0, 1, 1), (1, .iconst 3, 1, 2), (2, .if_icmp .ne 5, 3, 5), (5, .iload_n 1, 1, 6), (6, .ireturn, 1, 7), (7, .iload_n 1, 1, 8), (8, .iconst 3, 1, 9), (9, .if_icmp .ne 7, 3, 12), (12, .iload_n 0, 1, 13), (13, .goto 4, 3, 16), (16, .iconst 0, 1, 17), (17, .ireturn, 1, 18)]
theorem dt_Term_paretoOf_0 : ev_dall m_Term_paretoOf tb_Term_paretoOf_0 := by decide +kernel
def tb_Contest_note_0 : ev_tab := [(0, .iload_n 3, 1, 1), (1, .iconst 1, 1, 2), (2, .if_icmp .ne 18, 3, 5), (5, .aload_n 0, 1, 6), (6, .getfield 9, 3, 9), (9, .iload_n 2, 1, 10), (10, .dup2, 1, 11), (11, .iaload, 1, 12), (12, .iconst 1, 1, 13), (13, .iload_n 1, 1, 14), (14, .ishl, 1, 15), (15, .ior, 1, 16), (16, .iastore, 1, 17), (17, .goto 20, 3, 20), (20, .iload_n 3, 1, 21), (21, .iconst 2, 1, 22), (22, .if_icmp .ne 15, 3, 25), (25, .aload_n 0, 1, 26), (26, .getfield 9, 3, 29), (29, .iload_n 1, 1, 30), (30, .dup2, 1, 31), (31, .iaload, 1, 32), (32, .iconst 1, 1, 33), (33, .iload_n 2, 1, 34), (34, .ishl, 1, 35), (35, .ior, 1, 36), (36, .iastore, 1, 37), (37, .return_, 1, 38)]
theorem dt_Contest_note_0 : ev_dall m_Contest_note tb_Contest_note_0 := by decide +kernel
def tb_Contest_listUnbeaten_0 : ev_tab := [(0, .aload_n 2, 1, 1), (1, .invokevirtual 55, 3, 4), (4, .iconst 0, 1, 5), (5, .istore_n 3, 1, 6), (6, .iload_n 3, 1, 7), (7, .aload_n 1, 1, 8), (8, .getfield 26, 3, 11), (11, .if_icmp .ge 39, 3, 14), (14, .aload_n 0, 1, 15), (15, .getfield 18, 3, 18), (18, .iload_n 3, 1, 19), (19, .invokestatic 31, 3, 22), (22, .ifCond .eq 22, 3, 25), (25, .aload_n 0, 1, 26), (26, .getfield 9, 3, 29), (29, .iload_n 3, 1, 30), (30, .iaload, 1, 31), (31, .ifCond .ne 13, 3, 34), (34, .aload_n 2, 1, 35), (35, .aload_n 1, 1, 36), (36, .getfield 60, 3, 39), (39, .iload_n 3, 1, 40), (40, .iaload, 1, 41), (41, .invokevirtual 63, 3, 44), (44, .iinc 3 1, 3, 47), (47, .goto (-41), 3, 50), (50, .return_, 1, 51)]
theorem dt_Contest_listUnbeaten_0 : ev_dall m_Contest_listUnbeaten tb_Contest_listUnbeaten_0 := by decide +kernel
def tb_RowList_clear_0 : ev_tab := [(0, .aload_n 0, 1, 1), (1, .iconst 0, 1, 2), (2, .putfield 15, 3, 5), (5, .return_, 1, 6)]
theorem dt_RowList_clear_0 : ev_dall m_RowList_clear tb_RowList_clear_0 := by decide +kernel
def tb_RowList_add_0 : ev_tab := [(0, .aload_n 0, 1, 1), (1, .getfield 9, 3, 4), (4, .aload_n 0, 1, 5), (5, .getfield 15, 3, 8), (8, .iload_n 1, 1, 9), (9, .iastore, 1, 10), (10, .aload_n 0, 1, 11), (11, .dup, 1, 12), (12, .getfield 15, 3, 15), (15, .iconst 1, 1, 16), (16, .iadd, 1, 17), (17, .putfield 15, 3, 20), (20, .return_, 1, 21)]
theorem dt_RowList_add_0 : ev_dall m_RowList_add tb_RowList_add_0 := by decide +kernel
def tb_PT_read_0 : ev_tab := [(0, .aload_n 0, 1, 1), (1, .iload_n 1, 1, 2), (2, .invokevirtual 224, 3, 5), (5, .ifCond .ne 5, 3, 8), (8, .iconst 0, 1, 9), (9, .ireturn, 1, 10), (10, .aload_n 0, 1, 11), (11, .aload_n 0, 1, 12), (12, .getfield 52, 3, 15), (15, .iload_n 1, 1, 16), (16, .aaload, 1, 17), (17, .invokevirtual 217, 3, 20), (20, .iconst 1, 1, 21), (21, .ireturn, 1, 22)]
theorem dt_PT_read_0 : ev_dall m_PT_read tb_PT_read_0 := by decide +kernel
def tb_PT_markRead_0 : ev_tab := [(0, .aload_n 0, 1, 1), (1, .aload_n 1, 1, 2), (2, .invokevirtual 227, 3, 5), (5, .aload_n 1, 1, 6), (6, .getfield 230, 3, 9), (9, .aload_n 1, 1, 10), (10, .getfield 221, 3, 13), (13, .invokevirtual 278, 3, 16), (16, .return_, 1, 17)]
theorem dt_PT_markRead_0 : ev_dall m_PT_markRead tb_PT_markRead_0 := by decide +kernel
def tb_RowList_copyFrom_0 : ev_tab := [(0, .aload_n 1, 1, 1), (1, .getfield 9, 3, 4), (4, .iconst 0, 1, 5), (5, .aload_n 0, 1, 6), (6, .getfield 9, 3, 9), (9, .iconst 0, 1, 10), (10, .aload_n 1, 1, 11), (11, .getfield 15, 3, 14), (14, .invokestatic 19, 3, 17), (17, .aload_n 0, 1, 18), (18, .aload_n 1, 1, 19), (19, .getfield 15, 3, 22), (22, .putfield 15, 3, 25), (25, .return_, 1, 26)]
theorem dt_RowList_copyFrom_0 : ev_dall m_RowList_copyFrom tb_RowList_copyFrom_0 := by decide +kernel
def tb_PT_row_0 : ev_tab := [(0, .aload_n 0, 1, 1), (1, .getfield 12, 3, 4), (4, .invokevirtual 67, 3, 7), (7, .ifCond .eq 13, 3, 10), (10, .new 71, 3, 13), (13, .dup, 1, 14), (14, .ldc 73, 2, 16), (16, .invokespecial 75, 3, 19), (19, .athrow, 1, 20), (20, .aload_n 0, 1, 21), (21, .dup, 1, 22), (22, .getfield 56, 3, 25), (25, .iconst 1, 1, 26), (26, .iadd, 1, 27), (27, .putfield 56, 3, 30), (30, .aload_n 0, 1, 31), (31, .getfield 12, 3, 34), (34, .iload_n 1, 1, 35), (35, .iload_n 2, 1, 36), (36, .iload_n 3, 1, 37), (37, .iload 4, 2, 39), (39, .invokevirtual 78, 3, 42), (42, .ireturn, 1, 43)]
theorem dt_PT_row_0 : ev_dall m_PT_row tb_PT_row_0 := by decide +kernel
def tb_Rows_isFull_0 : ev_tab := [(0, .aload_n 0, 1, 1), (1, .getfield 20, 3, 4), (4, .bipush 24, 2, 6), (6, .if_icmp .eq 12, 3, 9), (9, .aload_n 0, 1, 10), (10, .getfield 24, 3, 13), (13, .bipush 120, 2, 15), (15, .if_icmp .ne 7, 3, 18), (18, .iconst 1, 1, 19), (19, .goto 4, 3, 22), (22, .iconst 0, 1, 23), (23, .ireturn, 1, 24)]
theorem dt_Rows_isFull_0 : ev_dall m_Rows_isFull tb_Rows_isFull_0 := by decide +kernel
def tb_Rows_add_0 : ev_tab := [(0, .aload_n 0, 1, 1), (1, .getfield 24, 3, 4), (4, .istore 5, 2, 6), (6, .aload_n 0, 1, 7), (7, .getfield 9, 3, 10), (10, .aload_n 0, 1, 11), (11, .getfield 20, 3, 14), (14, .iload 5, 2, 16), (16, .iastore, 1, 17), (17, .aload_n 0, 1, 18), (18, .getfield 17, 3, 21), (21, .aload_n 0, 1, 22), (22, .getfield 20, 3, 25), (25, .aaload, 1, 26), (26, .iconst 0, 1, 27), (27, .iload_n 1, 1, 28), (28, .iastore, 1, 29), (29, .aload_n 0, 1, 30), (30, .getfield 17, 3, 33), (33, .aload_n 0, 1, 34), (34, .getfield 20, 3, 37), (37, .aaload, 1, 38), (38, .iconst 1, 1, 39), (39, .iload_n 2, 1, 40), (40, .iastore, 1, 41), (41, .aload_n 0, 1, 42), (42, .getfield 17, 3, 45), (45, .aload_n 0, 1, 46), (46, .getfield 20, 3, 49), (49, .aaload, 1, 50), (50, .iconst 2, 1, 51), (51, .iload_n 3, 1, 52), (52, .iastore, 1, 53), (53, .aload_n 0, 1, 54), (54, .getfield 17, 3, 57), (57, .aload_n 0, 1, 58), (58, .getfield 20, 3, 61), (61, .aaload, 1, 62), (62, .iconst 3, 1, 63), (63, .iload 4, 2, 65), (65, .iastore, 1, 66), (66, .aload_n 0, 1, 67), (67, .dup, 1, 68), (68, .getfield 20, 3, 71), (71, .iconst 1, 1, 72), (72, .iadd, 1, 73), (73, .putfield 20, 3, 76), (76, .aload_n 0, 1, 77), (77, .dup, 1, 78), (78, .getfield 24, 3, 81), (81, .iconst 1, 1, 82), (82, .iadd, 1, 83), (83, .putfield 24, 3, 86), (86, .iload 5, 2, 88), (88, .ireturn, 1, 89)]
theorem dt_Rows_add_0 : ev_dall m_Rows_add tb_Rows_add_0 := by decide +kernel
def tb_PT_value_0 : ev_tab := [(0, .aload_n 0, 1, 1), (1, .getfield 12, 3, 4), (4, .iload_n 1, 1, 5), (5, .invokevirtual 82, 3, 8), (8, .istore_n 3, 1, 9), (9, .iload_n 3, 1, 10), (10, .iconst (-1), 1, 11), (11, .if_icmp .eq 10, 3, 14), (14, .iload_n 2, 1, 15), (15, .invokestatic 86, 3, 18), (18, .ifCond .ne 13, 3, 21), (21, .new 98, 3, 24), (24, .dup, 1, 25), (25, .ldc 100, 2, 27), (27, .invokespecial 102, 3, 30), (30, .athrow, 1, 31), (31, .aload_n 0, 1, 32), (32, .getfield 12, 3, 35), (35, .getfield 90, 3, 38), (38, .iload_n 3, 1, 39), (39, .aaload, 1, 40), (40, .iload_n 2, 1, 41), (41, .iaload, 1, 42), (42, .ireturn, 1, 43)]
theorem dt_PT_value_0 : ev_dall m_PT_value tb_PT_value_0 := by decide +kernel
def tb_PT_order_0 : ev_tab := [(0, .iload_n 1, 1, 1), (1, .ifCond .lt 26, 3, 4), (4, .iload_n 1, 1, 5), (5, .iconst 5, 1, 6), (6, .if_icmp .gt 21, 3, 9), (9, .iload_n 2, 1, 10), (10, .invokestatic 86, 3, 13), (13, .ifCond .eq 14, 3, 16), (16, .iload_n 1, 1, 17), (17, .iconst 3, 1, 18), (18, .if_icmp .ne 19, 3, 21), (21, .iload_n 3, 1, 22), (22, .iload 4, 2, 24), (24, .if_icmp .le 13, 3, 27), (27, .new 103, 3, 30), (30, .dup, 1, 31), (31, .ldc 105, 2, 33), (33, .invokespecial 107, 3, 36), (36, .athrow, 1, 37), (37, .aload_n 0, 1, 38), (38, .getfield 22, 3, 41), (41, .bipush 24, 2, 43), (43, .if_icmp .ne 13, 3, 46), (46, .new 71, 3, 49), (49, .dup, 1, 50), (50, .ldc 108, 2, 52), (52, .invokespecial 75, 3, 55), (55, .athrow, 1, 56), (56, .aload_n 0, 1, 57), (57, .aload_n 0, 1, 58), (58, .iload_n 1, 1, 59), (59, .iload_n 2, 1, 60), (60, .iload_n 3, 1, 61), (61, .iload 4, 2, 63), (63, .invokevirtual 110, 3, 66), (66, .invokevirtual 114, 3, 69), (69, .ireturn, 1, 70)]
theorem dt_PT_order_0 : ev_dall m_PT_order tb_PT_order_0 := by decide +kernel
def tb_PT_newOrder_0 : ev_tab := [(0, .iload_n 1, 1, 1), (1, .lookupswitch 53 #[(4, 27), (5, 40)], 27, 28), (28, .new 124, 3, 31), (31, .dup, 1, 32), (32, .aload_n 0, 1, 33), (33, .getfield 22, 3, 36), (36, .iload_n 2, 1, 37), (37, .invokespecial 243, 3, 40), (40, .areturn, 1, 41), (41, .new 131, 3, 44), (44, .dup, 1, 45), (45, .aload_n 0, 1, 46), (46, .getfield 22, 3, 49), (49, .iload_n 2, 1, 50), (50, .invokespecial 246, 3, 53), (53, .areturn, 1, 54), (54, .new 247, 3, 57), (57, .dup, 1, 58), (58, .iload_n 1, 1, 59), (59, .aload_n 0, 1, 60), (60, .getfield 22, 3, 63), (63, .iload_n 2, 1, 64), (64, .iload_n 3, 1, 65), (65, .iload_n 1, 1, 66), (66, .iconst 2, 1, 67), (67, .if_icmp .ne 7, 3, 70), (70, .iload_n 3, 1, 71), (71, .goto 5, 3, 74), (74, .iload 4, 2, 76), (76, .invokespecial 249, 3, 79), (79, .areturn, 1, 80)]
theorem dt_PT_newOrder_0 : ev_dall m_PT_newOrder tb_PT_newOrder_0 := by decide +kernel
def tb_Layers_init_0 : ev_tab := [(0, .aload_n 0, 1, 1), (1, .iconst 4, 1, 2), (2, .iload_n 1, 1, 3), (3, .iload_n 2, 1, 4), (4, .invokespecial 3, 3, 7), (7, .aload_n 0, 1, 8), (8, .bipush 10, 2, 10), (10, .newarray .int, 2, 12), (12, .putfield 9, 3, 15), (15, .iconst 0, 1, 16), (16, .istore_n 3, 1, 17), (17, .iload_n 3, 1, 18), (18, .bipush 10, 2, 20), (20, .if_icmp .ge 16, 3, 23), (23, .aload_n 0, 1, 24), (24, .getfield 9, 3, 27), (27, .iload_n 3, 1, 28), (28, .iconst (-1), 1, 29), (29, .iastore, 1, 30), (30, .iinc 3 1, 3, 33), (33, .goto (-16), 3, 36), (36, .return_, 1, 37)]
theorem dt_Layers_init_0 : ev_dall m_Layers_init tb_Layers_init_0 := by decide +kernel
def tb_Order_init_0 : ev_tab := [(0, .aload_n 0, 1, 1), (1, .iload_n 1, 1, 2), (2, .iload_n 2, 1, 3), (3, .iconst 1, 1, 4), (4, .iconst 1, 1, 5), (5, .iload_n 3, 1, 6), (6, .ishl, 1, 7), (7, .invokespecial 3, 3, 10), (10, .aload_n 0, 1, 11), (11, .iload_n 3, 1, 12), (12, .putfield 9, 3, 15), (15, .return_, 1, 16)]
theorem dt_Order_init_0 : ev_dall m_Order_init tb_Order_init_0 := by decide +kernel
def tb_Node_init_0 : ev_tab := [(0, .aload_n 0, 1, 1), (1, .invokespecial 1, 3, 4), (4, .aload_n 0, 1, 5), (5, .iload_n 1, 1, 6), (6, .putfield 7, 3, 9), (9, .aload_n 0, 1, 10), (10, .iload_n 2, 1, 11), (11, .putfield 13, 3, 14), (14, .aload_n 0, 1, 15), (15, .iload_n 3, 1, 16), (16, .putfield 16, 3, 19), (19, .aload_n 0, 1, 20), (20, .iload 4, 2, 22), (22, .putfield 19, 3, 25), (25, .return_, 1, 26)]
theorem dt_Node_init_0 : ev_dall m_Node_init tb_Node_init_0 := by decide +kernel
def tb_Graph_init_0 : ev_tab := [(0, .aload_n 0, 1, 1), (1, .iconst 5, 1, 2), (2, .iload_n 1, 1, 3), (3, .iload_n 2, 1, 4), (4, .invokespecial 3, 3, 7), (7, .aload_n 0, 1, 8), (8, .bipush 10, 2, 10), (10, .newarray .int, 2, 12), (12, .putfield 9, 3, 15), (15, .aload_n 0, 1, 16), (16, .bipush 10, 2, 18), (18, .newarray .int, 2, 20), (20, .putfield 15, 3, 23), (23, .return_, 1, 24)]
theorem dt_Graph_init_0 : ev_dall m_Graph_init tb_Graph_init_0 := by decide +kernel
def tb_ValueOrder_init_0 : ev_tab := [(0, .aload_n 0, 1, 1), (1, .iload_n 1, 1, 2), (2, .iload_n 2, 1, 3), (3, .iload_n 3, 1, 4), (4, .invokespecial 3, 3, 7), (7, .aload_n 0, 1, 8), (8, .iload 4, 2, 10), (10, .putfield 9, 3, 13), (13, .aload_n 0, 1, 14), (14, .iload 5, 2, 16), (16, .putfield 15, 3, 19), (19, .return_, 1, 20)]
theorem dt_ValueOrder_init_0 : ev_dall m_ValueOrder_init tb_ValueOrder_init_0 := by decide +kernel
def tb_PT_addNode_0 : ev_tab := [(0, .aload_n 0, 1, 1), (1, .getfield 18, 3, 4), (4, .aload_n 0, 1, 5), (5, .getfield 22, 3, 8), (8, .aload_n 1, 1, 9), (9, .aastore, 1, 10), (10, .aload_n 0, 1, 11), (11, .dup, 1, 12), (12, .getfield 22, 3, 15), (15, .iconst 1, 1, 16), (16, .iadd, 1, 17), (17, .putfield 22, 3, 20), (20, .aload_n 1, 1, 21), (21, .getfield 252, 3, 24), (24, .ireturn, 1, 25)]
theorem dt_PT_addNode_0 : ev_dall m_PT_addNode tb_PT_addNode_0 := by decide +kernel
def tb_PT_edge_0 : ev_tab := [(0, .aload_n 0, 1, 1), (1, .iload_n 1, 1, 2), (2, .invokevirtual 118, 3, 5), (5, .ifCond .eq 17, 3, 8), (8, .iload_n 2, 1, 9), (9, .invokestatic 121, 3, 12), (12, .ifCond .eq 10, 3, 15), (15, .iload_n 3, 1, 16), (16, .invokestatic 121, 3, 19), (19, .ifCond .ne 13, 3, 22), (22, .new 103, 3, 25), (25, .dup, 1, 26), (26, .ldc 129, 2, 28), (28, .invokespecial 107, 3, 31), (31, .athrow, 1, 32), (32, .aload_n 0, 1, 33), (33, .getfield 18, 3, 36), (36, .iload_n 1, 1, 37), (37, .aaload, 1, 38), (38, .astore 5, 2, 40), (40, .aload 5, 2, 42), (42, .instanceof 131, 3, 45), (45, .ifCond .eq 19, 3, 48), (48, .aload 5, 2, 50), (50, .checkcast 131, 3, 53), (53, .astore 4, 2, 55), (55, .aload_n 0, 1, 56), (56, .aload 4, 2, 58), (58, .iload_n 2, 1, 59), (59, .iload_n 3, 1, 60), (60, .invokevirtual 133, 3, 63), (63, .ireturn, 1, 64), (64, .new 103, 3, 67), (67, .dup, 1, 68), (68, .ldc 137, 2, 70), (70, .invokespecial 107, 3, 73), (73, .athrow, 1, 74)]
theorem dt_PT_edge_0 : ev_dall m_PT_edge tb_PT_edge_0 := by decide +kernel
def tb_PT_addEdge_0 : ev_tab := [(0, .iload_n 2, 1, 1), (1, .iload_n 3, 1, 2), (2, .if_icmp .eq 12, 3, 5), (5, .aload_n 1, 1, 6), (6, .iload_n 3, 1, 7), (7, .iload_n 2, 1, 8), (8, .invokevirtual 255, 3, 11), (11, .ifCond .eq 14, 3, 14), (14, .new 71, 3, 17), (17, .dup, 1, 18), (18, .ldc_w 259, 3, 21), (21, .invokespecial 75, 3, 24), (24, .athrow, 1, 25), (25, .aload_n 1, 1, 26), (26, .iload_n 2, 1, 27), (27, .iload_n 3, 1, 28), (28, .invokevirtual 261, 3, 31), (31, .ifCond .eq 5, 3, 34), (34, .iconst 0, 1, 35), (35, .ireturn, 1, 36), (36, .aload_n 1, 1, 37), (37, .iload_n 2, 1, 38), (38, .iload_n 3, 1, 39), (39, .invokevirtual 264, 3, 42), (42, .aload_n 0, 1, 43), (43, .dup, 1, 44), (44, .getfield 56, 3, 47), (47, .iconst 1, 1, 48), (48, .iadd, 1, 49), (49, .putfield 56, 3, 52), (52, .iconst 1, 1, 53), (53, .ireturn, 1, 54)]
theorem dt_PT_addEdge_0 : ev_dall m_PT_addEdge tb_PT_addEdge_0 := by decide +kernel
def tb_Graph_hasEdge_0 : ev_tab := [(0, .aload_n 0, 1, 1), (1, .getfield 9, 3, 4), (4, .iload_n 1, 1, 5), (5, .iaload, 1, 6), (6, .iload_n 2, 1, 7), (7, .ishr, 1, 8), (8, .iconst 1, 1, 9), (9, .iand, 1, 10), (10, .iconst 1, 1, 11), (11, .if_icmp .ne 7, 3, 14), (14, .iconst 1, 1, 15), (15, .goto 4, 3, 18), (18, .iconst 0, 1, 19), (19, .ireturn, 1, 20)]
theorem dt_Graph_hasEdge_0 : ev_dall m_Graph_hasEdge tb_Graph_hasEdge_0 := by decide +kernel
def tb_Graph_join_0 : ev_tab := [(0, .aload_n 0, 1, 1), (1, .getfield 9, 3, 4), (4, .iload_n 1, 1, 5), (5, .dup2, 1, 6), (6, .iaload, 1, 7), (7, .iconst 1, 1, 8), (8, .iload_n 2, 1, 9), (9, .ishl, 1, 10), (10, .ior, 1, 11), (11, .iastore, 1, 12), (12, .iconst 1, 1, 13), (13, .iload_n 2, 1, 14), (14, .ishl, 1, 15), (15, .aload_n 0, 1, 16), (16, .getfield 15, 3, 19), (19, .iload_n 2, 1, 20), (20, .iaload, 1, 21), (21, .ior, 1, 22), (22, .istore_n 3, 1, 23), (23, .iconst 0, 1, 24), (24, .istore 4, 2, 26), (26, .iload 4, 2, 28), (28, .bipush 10, 2, 30), (30, .if_icmp .ge 36, 3, 33), (33, .iload 4, 2, 35), (35, .iload_n 1, 1, 36), (36, .if_icmp .eq 13, 3, 39), (39, .aload_n 0, 1, 40), (40, .iload 4, 2, 42), (42, .iload_n 1, 1, 43), (43, .invokevirtual 22, 3, 46), (46, .ifCond .eq 14, 3, 49), (49, .aload_n 0, 1, 50), (50, .getfield 15, 3, 53), (53, .iload 4, 2, 55), (55, .dup2, 1, 56), (56, .iaload, 1, 57), (57, .iload_n 3, 1, 58), (58, .ior, 1, 59), (59, .iastore, 1, 60), (60, .iinc 4 1, 3, 63), (63, .goto (-37), 3, 66), (66, .return_, 1, 67)]
theorem dt_Graph_join_0 : ev_dall m_Graph_join tb_Graph_join_0 := by decide +kernel
def tb_PT_term_0 : ev_tab := [(0, .iload_n 1, 1, 1), (1, .bipush 6, 2, 3), (3, .if_icmp .lt 31, 3, 6), (6, .iload_n 1, 1, 7), (7, .bipush 9, 2, 9), (9, .if_icmp .gt 25, 3, 12), (12, .aload_n 0, 1, 13), (13, .iload_n 2, 1, 14), (14, .invokevirtual 118, 3, 17), (17, .ifCond .eq 17, 3, 20), (20, .iload_n 1, 1, 21), (21, .bipush 9, 2, 23), (23, .if_icmp .eq 21, 3, 26), (26, .aload_n 0, 1, 27), (27, .iload_n 3, 1, 28), (28, .invokevirtual 118, 3, 31), (31, .ifCond .ne 13, 3, 34), (34, .new 103, 3, 37), (37, .dup, 1, 38), (38, .ldc 139, 2, 40), (40, .invokespecial 107, 3, 43), (43, .athrow, 1, 44), (44, .aload_n 0, 1, 45), (45, .getfield 18, 3, 48), (48, .iload_n 2, 1, 49), (49, .aaload, 1, 50), (50, .astore 4, 2, 52), (52, .iload_n 1, 1, 53), (53, .bipush 9, 2, 55), (55, .if_icmp .ne 8, 3, 58), (58, .aload 4, 2, 60), (60, .goto 9, 3, 63), (63, .aload_n 0, 1, 64), (64, .getfield 18, 3, 67), (67, .iload_n 3, 1, 68), (68, .aaload, 1, 69), (69, .astore 5, 2, 71), (71, .aload_n 0, 1, 72), (72, .getfield 22, 3, 75), (75, .bipush 24, 2, 77), (77, .if_icmp .eq 16, 3, 80), (80, .iload_n 1, 1, 81), (81, .aload 4, 2, 83), (83, .aload 5, 2, 85), (85, .invokestatic 141, 3, 88), (88, .bipush 40, 2, 90), (90, .if_icmp .le 13, 3, 93), (93, .new 71, 3, 96), (96, .dup, 1, 97), (97, .ldc 147, 2, 99), (99, .invokespecial 75, 3, 102), (102, .athrow, 1, 103), (103, .aload_n 0, 1, 104), (104, .new 142, 3, 107), (107, .dup, 1, 108), (108, .iload_n 1, 1, 109), (109, .aload_n 0, 1, 110), (110, .getfield 22, 3, 113), (113, .aload 4, 2, 115), (115, .aload 5, 2, 117)]
theorem dt_PT_term_0 : ev_dall m_PT_term tb_PT_term_0 := by decide +kernel
def tb_PT_term_1 : ev_tab := [(117, .invokespecial 149, 3, 120), (120, .invokevirtual 114, 3, 123), (123, .ireturn, 1, 124)]
theorem dt_PT_term_1 : ev_dall m_PT_term tb_PT_term_1 := by decide +kernel
def tb_Term_sizeOf_0 : ev_tab := [(0, .iload_n 0, 1, 1), (1, .bipush 9, 2, 3), (3, .if_icmp .ne 12, 3, 6), (6, .iconst 1, 1, 7), (7, .aload_n 1, 1, 8), (8, .getfield 26, 3, 11), (11, .iadd, 1, 12), (12, .goto 14, 3, 15), (15, .iconst 1, 1, 16), (16, .aload_n 1, 1, 17), (17, .getfield 26, 3, 20), (20, .iadd, 1, 21), (21, .aload_n 2, 1, 22), (22, .getfield 26, 3, 25), (25, .iadd, 1, 26), (26, .ireturn, 1, 27)]
theorem dt_Term_sizeOf_0 : ev_dall m_Term_sizeOf tb_Term_sizeOf_0 := by decide +kernel
def tb_Term_init_0 : ev_tab := [(0, .aload_n 0, 1, 1), (1, .iload_n 1, 1, 2), (2, .iload_n 2, 1, 3), (3, .iload_n 1, 1, 4), (4, .aload_n 3, 1, 5), (5, .aload 4, 2, 7), (7, .invokestatic 3, 3, 10), (10, .aload_n 3, 1, 11), (11, .getfield 9, 3, 14), (14, .aload 4, 2, 16), (16, .getfield 9, 3, 19), (19, .ior, 1, 20), (20, .invokespecial 15, 3, 23), (23, .aload_n 0, 1, 24), (24, .aload_n 3, 1, 25), (25, .putfield 19, 3, 28), (28, .aload_n 0, 1, 29), (29, .aload 4, 2, 31), (31, .putfield 23, 3, 34), (34, .return_, 1, 35)]
theorem dt_Term_init_0 : ev_dall m_Term_init tb_Term_init_0 := by decide +kernel
def tb_PT_condition_0 : ev_tab := [(0, .iload_n 1, 1, 1), (1, .invokestatic 86, 3, 4), (4, .ifCond .eq 13, 3, 7), (7, .iload_n 2, 1, 8), (8, .ifCond .lt 9, 3, 11), (11, .iload_n 2, 1, 12), (12, .bipush 6, 2, 14), (14, .if_icmp .lt 13, 3, 17), (17, .new 103, 3, 20), (20, .dup, 1, 21), (21, .ldc 152, 2, 23), (23, .invokespecial 107, 3, 26), (26, .athrow, 1, 27), (27, .aload_n 0, 1, 28), (28, .getfield 29, 3, 31), (31, .getfield 154, 3, 34), (34, .iconst 4, 1, 35), (35, .if_icmp .ne 13, 3, 38), (38, .new 71, 3, 41), (41, .dup, 1, 42), (42, .ldc 157, 2, 44), (44, .invokespecial 75, 3, 47), (47, .athrow, 1, 48), (48, .aload_n 0, 1, 49), (49, .getfield 29, 3, 52), (52, .iload_n 1, 1, 53), (53, .iload_n 2, 1, 54), (54, .iload_n 3, 1, 55), (55, .invokevirtual 159, 3, 58), (58, .aload_n 0, 1, 59), (59, .getfield 29, 3, 62), (62, .getfield 154, 3, 65), (65, .ireturn, 1, 66)]
theorem dt_PT_condition_0 : ev_dall m_PT_condition tb_PT_condition_0 := by decide +kernel
def tb_Conditions_add_0 : ev_tab := [(0, .aload_n 0, 1, 1), (1, .getfield 9, 3, 4), (4, .aload_n 0, 1, 5), (5, .getfield 21, 3, 8), (8, .iload_n 1, 1, 9), (9, .iastore, 1, 10), (10, .aload_n 0, 1, 11), (11, .getfield 15, 3, 14), (14, .aload_n 0, 1, 15), (15, .getfield 21, 3, 18), (18, .iload_n 2, 1, 19), (19, .iastore, 1, 20), (20, .aload_n 0, 1, 21), (21, .getfield 18, 3, 24), (24, .aload_n 0, 1, 25), (25, .getfield 21, 3, 28), (28, .iload_n 3, 1, 29), (29, .iastore, 1, 30), (30, .aload_n 0, 1, 31), (31, .dup, 1, 32), (32, .getfield 21, 3, 35), (35, .iconst 1, 1, 36), (36, .iadd, 1, 37), (37, .putfield 21, 3, 40), (40, .return_, 1, 41)]
theorem dt_Conditions_add_0 : ev_dall m_Conditions_add tb_Conditions_add_0 := by decide +kernel
def tb_PT_compare_0 : ev_tab := [(0, .aload_n 0, 1, 1), (1, .getfield 12, 3, 4), (4, .iload_n 2, 1, 5), (5, .invokevirtual 82, 3, 8), (8, .istore 4, 2, 10), (10, .aload_n 0, 1, 11), (11, .getfield 12, 3, 14), (14, .iload_n 3, 1, 15), (15, .invokevirtual 82, 3, 18), (18, .istore 5, 2, 20), (20, .aload_n 0, 1, 21), (21, .iload_n 1, 1, 22), (22, .invokevirtual 118, 3, 25), (25, .ifCond .eq 15, 3, 28), (28, .iload 4, 2, 30), (30, .iconst (-1), 1, 31), (31, .if_icmp .eq 9, 3, 34), (34, .iload 5, 2, 36), (36, .iconst (-1), 1, 37), (37, .if_icmp .ne 13, 3, 40), (40, .new 98, 3, 43), (43, .dup, 1, 44), (44, .ldc 165, 2, 46), (46, .invokespecial 102, 3, 49), (49, .athrow, 1, 50), (50, .aload_n 0, 1, 51), (51, .getfield 18, 3, 54), (54, .iload_n 1, 1, 55), (55, .aaload, 1, 56), (56, .aload_n 0, 1, 57), (57, .getfield 12, 3, 60), (60, .getfield 90, 3, 63), (63, .iload 4, 2, 65), (65, .aaload, 1, 66), (66, .aload_n 0, 1, 67), (67, .getfield 12, 3, 70), (70, .getfield 90, 3, 73), (73, .iload 5, 2, 75), (75, .aaload, 1, 76), (76, .invokevirtual 167, 3, 79), (79, .ireturn, 1, 80)]
theorem dt_PT_compare_0 : ev_dall m_PT_compare tb_PT_compare_0 := by decide +kernel
def tb_PT_best_0 : ev_tab := [(0, .aload_n 0, 1, 1), (1, .iload_n 1, 1, 2), (2, .invokevirtual 118, 3, 5), (5, .ifCond .ne 13, 3, 8), (8, .new 98, 3, 11), (11, .dup, 1, 12), (12, .ldc 171, 2, 14), (14, .invokespecial 102, 3, 17), (17, .athrow, 1, 18), (18, .aload_n 0, 1, 19), (19, .getfield 36, 3, 22), (22, .aload_n 0, 1, 23), (23, .getfield 12, 3, 26), (26, .aload_n 0, 1, 27), (27, .getfield 18, 3, 30), (30, .iload_n 1, 1, 31), (31, .aaload, 1, 32), (32, .aload_n 0, 1, 33), (33, .getfield 29, 3, 36), (36, .invokevirtual 173, 3, 39), (39, .aload_n 0, 1, 40), (40, .getfield 36, 3, 43), (43, .aload_n 0, 1, 44), (44, .getfield 12, 3, 47), (47, .aload_n 0, 1, 48), (48, .getfield 43, 3, 51), (51, .invokevirtual 177, 3, 54), (54, .aload_n 0, 1, 55), (55, .getfield 43, 3, 58), (58, .getfield 181, 3, 61), (61, .ireturn, 1, 62)]
theorem dt_PT_best_0 : ev_dall m_PT_best tb_PT_best_0 := by decide +kernel
def tb_PT_grouped_0 : ev_tab := [(0, .aload_n 0, 1, 1), (1, .iload_n 1, 1, 2), (2, .invokevirtual 118, 3, 5), (5, .ifCond .eq 10, 3, 8), (8, .iload_n 2, 1, 9), (9, .invokestatic 86, 3, 12), (12, .ifCond .ne 13, 3, 15), (15, .new 98, 3, 18), (18, .dup, 1, 19), (19, .ldc 182, 2, 21), (21, .invokespecial 102, 3, 24), (24, .athrow, 1, 25), (25, .aload_n 0, 1, 26), (26, .getfield 36, 3, 29), (29, .aload_n 0, 1, 30), (30, .getfield 12, 3, 33), (33, .aload_n 0, 1, 34), (34, .getfield 18, 3, 37), (37, .iload_n 1, 1, 38), (38, .aaload, 1, 39), (39, .aload_n 0, 1, 40), (40, .getfield 29, 3, 43), (43, .invokevirtual 173, 3, 46), (46, .aload_n 0, 1, 47), (47, .getfield 36, 3, 50), (50, .aload_n 0, 1, 51), (51, .getfield 12, 3, 54), (54, .iload_n 2, 1, 55), (55, .invokevirtual 184, 3, 58), (58, .aload_n 0, 1, 59), (59, .getfield 36, 3, 62), (62, .aload_n 0, 1, 63), (63, .getfield 12, 3, 66), (66, .aload_n 0, 1, 67), (67, .getfield 43, 3, 70), (70, .invokevirtual 177, 3, 73), (73, .aload_n 0, 1, 74), (74, .getfield 43, 3, 77), (77, .getfield 181, 3, 80), (80, .ireturn, 1, 81)]
theorem dt_PT_grouped_0 : ev_dall m_PT_grouped tb_PT_grouped_0 := by decide +kernel
def tb_Contest_forgetOtherGroups_0 : ev_tab := [(0, .iconst 0, 1, 1), (1, .istore_n 3, 1, 2), (2, .iload_n 3, 1, 3), (3, .aload_n 1, 1, 4), (4, .getfield 26, 3, 7), (7, .if_icmp .ge 62, 3, 10), (10, .iconst 0, 1, 11), (11, .istore 4, 2, 13), (13, .iload 4, 2, 15), (15, .aload_n 1, 1, 16), (16, .getfield 26, 3, 19), (19, .if_icmp .ge 44, 3, 22), (22, .aload_n 1, 1, 23), (23, .getfield 35, 3, 26), (26, .iload_n 3, 1, 27), (27, .aaload, 1, 28), (28, .iload_n 2, 1, 29), (29, .iaload, 1, 30), (30, .aload_n 1, 1, 31), (31, .getfield 35, 3, 34), (34, .iload 4, 2, 36), (36, .aaload, 1, 37), (37, .iload_n 2, 1, 38), (38, .iaload, 1, 39), (39, .if_icmp .eq 18, 3, 42), (42, .aload_n 0, 1, 43), (43, .getfield 9, 3, 46), (46, .iload_n 3, 1, 47), (47, .dup2, 1, 48), (48, .iaload, 1, 49), (49, .iconst 1, 1, 50), (50, .iload 4, 2, 52), (52, .ishl, 1, 53), (53, .iconst (-1), 1, 54), (54, .ixor, 1, 55), (55, .iand, 1, 56), (56, .iastore, 1, 57), (57, .iinc 4 1, 3, 60), (60, .goto (-47), 3, 63), (63, .iinc 3 1, 3, 66), (66, .goto (-64), 3, 69), (69, .return_, 1, 70)]
theorem dt_Contest_forgetOtherGroups_0 : ev_dall m_Contest_forgetOtherGroups tb_Contest_forgetOtherGroups_0 := by decide +kernel
def tb_PT_top_0 : ev_tab := [(0, .aload_n 0, 1, 1), (1, .iload_n 1, 1, 2), (2, .invokevirtual 118, 3, 5), (5, .ifCond .ne 13, 3, 8), (8, .new 98, 3, 11), (11, .dup, 1, 12), (12, .ldc 171, 2, 14), (14, .invokespecial 102, 3, 17), (17, .athrow, 1, 18), (18, .iload_n 2, 1, 19), (19, .ifCond .ge 13, 3, 22), (22, .new 103, 3, 25), (25, .dup, 1, 26), (26, .ldc 188, 2, 28), (28, .invokespecial 107, 3, 31), (31, .athrow, 1, 32), (32, .aload_n 0, 1, 33), (33, .getfield 36, 3, 36), (36, .aload_n 0, 1, 37), (37, .getfield 12, 3, 40), (40, .aload_n 0, 1, 41), (41, .getfield 18, 3, 44), (44, .iload_n 1, 1, 45), (45, .aaload, 1, 46), (46, .aload_n 0, 1, 47), (47, .getfield 29, 3, 50), (50, .invokevirtual 173, 3, 53), (53, .aload_n 0, 1, 54), (54, .getfield 36, 3, 57), (57, .invokevirtual 190, 3, 60), (60, .aload_n 0, 1, 61), (61, .getfield 36, 3, 64), (64, .aload_n 0, 1, 65), (65, .getfield 12, 3, 68), (68, .iload_n 2, 1, 69), (69, .aload_n 0, 1, 70), (70, .getfield 43, 3, 73), (73, .invokevirtual 193, 3, 76), (76, .aload_n 0, 1, 77), (77, .getfield 43, 3, 80), (80, .getfield 181, 3, 83), (83, .ireturn, 1, 84)]
theorem dt_PT_top_0 : ev_dall m_PT_top tb_PT_top_0 := by decide +kernel
def tb_Contest_rank_0 : ev_tab := [(0, .aload_n 0, 1, 1), (1, .aload_n 0, 1, 2), (2, .getfield 18, 3, 5), (5, .iconst (-1), 1, 6), (6, .ixor, 1, 7), (7, .iconst 0, 1, 8), (8, .invokevirtual 67, 3, 11), (11, .aload_n 0, 1, 12), (12, .getfield 18, 3, 15), (15, .istore_n 1, 1, 16), (16, .iconst 1, 1, 17), (17, .istore_n 2, 1, 18), (18, .iload_n 2, 1, 19), (19, .bipush 24, 2, 21), (21, .if_icmp .gt 31, 3, 24), (24, .iload_n 1, 1, 25), (25, .ifCond .eq 27, 3, 28), (28, .aload_n 0, 1, 29), (29, .iload_n 1, 1, 30), (30, .invokevirtual 71, 3, 33), (33, .istore_n 3, 1, 34), (34, .aload_n 0, 1, 35), (35, .iload_n 3, 1, 36), (36, .iload_n 2, 1, 37), (37, .invokevirtual 67, 3, 40), (40, .iload_n 1, 1, 41), (41, .iload_n 3, 1, 42), (42, .iconst (-1), 1, 43), (43, .ixor, 1, 44), (44, .iand, 1, 45), (45, .istore_n 1, 1, 46), (46, .iinc 2 1, 3, 49), (49, .goto (-31), 3, 52), (52, .return_, 1, 53)]
theorem dt_Contest_rank_0 : ev_dall m_Contest_rank tb_Contest_rank_0 := by decide +kernel
def tb_Contest_setLevel_0 : ev_tab := [(0, .iconst 0, 1, 1), (1, .istore_n 3, 1, 2), (2, .iload_n 3, 1, 3), (3, .bipush 24, 2, 5), (5, .if_icmp .ge 24, 3, 8), (8, .iload_n 1, 1, 9), (9, .iload_n 3, 1, 10), (10, .invokestatic 31, 3, 13), (13, .ifCond .eq 10, 3, 16), (16, .aload_n 0, 1, 17), (17, .getfield 15, 3, 20), (20, .iload_n 3, 1, 21), (21, .iload_n 2, 1, 22), (22, .iastore, 1, 23), (23, .iinc 3 1, 3, 26), (26, .goto (-24), 3, 29), (29, .return_, 1, 30)]
theorem dt_Contest_setLevel_0 : ev_dall m_Contest_setLevel tb_Contest_setLevel_0 := by decide +kernel
def tb_Contest_unbeatenAmong_0 : ev_tab := [(0, .iconst 0, 1, 1), (1, .istore_n 2, 1, 2), (2, .iconst 0, 1, 3), (3, .istore_n 3, 1, 4), (4, .iload_n 3, 1, 5), (5, .bipush 24, 2, 7), (7, .if_icmp .ge 34, 3, 10), (10, .iload_n 1, 1, 11), (11, .iload_n 3, 1, 12), (12, .invokestatic 31, 3, 15), (15, .ifCond .eq 20, 3, 18), (18, .aload_n 0, 1, 19), (19, .getfield 9, 3, 22), (22, .iload_n 3, 1, 23), (23, .iaload, 1, 24), (24, .iload_n 1, 1, 25), (25, .iand, 1, 26), (26, .ifCond .ne 9, 3, 29), (29, .iload_n 2, 1, 30), (30, .iconst 1, 1, 31), (31, .iload_n 3, 1, 32), (32, .ishl, 1, 33), (33, .ior, 1, 34), (34, .istore_n 2, 1, 35), (35, .iinc 3 1, 3, 38), (38, .goto (-34), 3, 41), (41, .iload_n 2, 1, 42), (42, .ireturn, 1, 43)]
theorem dt_Contest_unbeatenAmong_0 : ev_dall m_Contest_unbeatenAmong tb_Contest_unbeatenAmong_0 := by decide +kernel
def tb_Contest_listFirst_0 : ev_tab := [(0, .aload_n 3, 1, 1), (1, .invokevirtual 55, 3, 4), (4, .iconst 1, 1, 5), (5, .istore 4, 2, 7), (7, .iload 4, 2, 9), (9, .aload_n 1, 1, 10), (10, .getfield 26, 3, 13), (13, .if_icmp .gt 58, 3, 16), (16, .iconst 0, 1, 17), (17, .istore 5, 2, 19), (19, .iload 5, 2, 21), (21, .aload_n 1, 1, 22), (22, .getfield 26, 3, 25), (25, .if_icmp .ge 40, 3, 28), (28, .aload_n 3, 1, 29), (29, .getfield 75, 3, 32), (32, .iload_n 2, 1, 33), (33, .if_icmp .ge 32, 3, 36), (36, .aload_n 0, 1, 37), (37, .getfield 15, 3, 40), (40, .iload 5, 2, 42), (42, .iaload, 1, 43), (43, .iload 4, 2, 45), (45, .if_icmp .ne 14, 3, 48), (48, .aload_n 3, 1, 49), (49, .aload_n 1, 1, 50), (50, .getfield 60, 3, 53), (53, .iload 5, 2, 55), (55, .iaload, 1, 56), (56, .invokevirtual 63, 3, 59), (59, .iinc 5 1, 3, 62), (62, .goto (-43), 3, 65), (65, .iinc 4 1, 3, 68), (68, .goto (-61), 3, 71), (71, .return_, 1, 72)]
theorem dt_Contest_listFirst_0 : ev_dall m_Contest_listFirst tb_Contest_listFirst_0 := by decide +kernel
def tb_PT_level_0 : ev_tab := [(0, .aload_n 0, 1, 1), (1, .getfield 12, 3, 4), (4, .iload_n 2, 1, 5), (5, .invokevirtual 82, 3, 8), (8, .istore_n 3, 1, 9), (9, .aload_n 0, 1, 10), (10, .iload_n 1, 1, 11), (11, .invokevirtual 118, 3, 14), (14, .ifCond .eq 8, 3, 17), (17, .iload_n 3, 1, 18), (18, .iconst (-1), 1, 19), (19, .if_icmp .ne 13, 3, 22), (22, .new 98, 3, 25), (25, .dup, 1, 26), (26, .ldc 165, 2, 28), (28, .invokespecial 102, 3, 31), (31, .athrow, 1, 32), (32, .aload_n 0, 1, 33), (33, .getfield 36, 3, 36), (36, .aload_n 0, 1, 37), (37, .getfield 12, 3, 40), (40, .aload_n 0, 1, 41), (41, .getfield 18, 3, 44), (44, .iload_n 1, 1, 45), (45, .aaload, 1, 46), (46, .aload_n 0, 1, 47), (47, .getfield 29, 3, 50), (50, .invokevirtual 173, 3, 53), (53, .aload_n 0, 1, 54), (54, .getfield 36, 3, 57), (57, .invokevirtual 190, 3, 60), (60, .aload_n 0, 1, 61), (61, .getfield 36, 3, 64), (64, .getfield 197, 3, 67), (67, .iload_n 3, 1, 68), (68, .iaload, 1, 69), (69, .ireturn, 1, 70)]
theorem dt_PT_level_0 : ev_dall m_PT_level tb_PT_level_0 := by decide +kernel
def tb_PT_reason_0 : ev_tab := [(0, .aload_n 0, 1, 1), (1, .getfield 12, 3, 4), (4, .iload_n 2, 1, 5), (5, .invokevirtual 82, 3, 8), (8, .istore 5, 2, 10), (10, .aload_n 0, 1, 11), (11, .getfield 12, 3, 14), (14, .iload_n 3, 1, 15), (15, .invokevirtual 82, 3, 18), (18, .istore 6, 2, 20), (20, .aload_n 0, 1, 21), (21, .iload_n 1, 1, 22), (22, .invokevirtual 118, 3, 25), (25, .ifCond .eq 15, 3, 28), (28, .iload 5, 2, 30), (30, .iconst (-1), 1, 31), (31, .if_icmp .eq 9, 3, 34), (34, .iload 6, 2, 36), (36, .iconst (-1), 1, 37), (37, .if_icmp .ne 13, 3, 40), (40, .new 98, 3, 43), (43, .dup, 1, 44), (44, .ldc 165, 2, 46), (46, .invokespecial 102, 3, 49), (49, .athrow, 1, 50), (50, .aload_n 0, 1, 51), (51, .getfield 18, 3, 54), (54, .iload_n 1, 1, 55), (55, .aaload, 1, 56), (56, .aload_n 0, 1, 57), (57, .getfield 12, 3, 60), (60, .getfield 90, 3, 63), (63, .iload 5, 2, 65), (65, .aaload, 1, 66), (66, .aload_n 0, 1, 67), (67, .getfield 12, 3, 70), (70, .getfield 90, 3, 73), (73, .iload 6, 2, 75), (75, .aaload, 1, 76), (76, .invokevirtual 167, 3, 79), (79, .iconst 1, 1, 80), (80, .if_icmp .eq 5, 3, 83), (83, .iconst (-1), 1, 84), (84, .ireturn, 1, 85), (85, .aload_n 0, 1, 86), (86, .getfield 18, 3, 89), (89, .iload_n 1, 1, 90), (90, .aaload, 1, 91), (91, .aload_n 0, 1, 92), (92, .getfield 12, 3, 95), (95, .getfield 90, 3, 98), (98, .iload 5, 2, 100), (100, .aaload, 1, 101), (101, .aload_n 0, 1, 102), (102, .getfield 12, 3, 105), (105, .getfield 90, 3, 108), (108, .iload 6, 2, 110), (110, .aaload, 1, 111), (111, .iload 4, 2, 113), (113, .invokestatic 204, 3, 116)]
theorem dt_PT_reason_0 : ev_dall m_PT_reason tb_PT_reason_0 := by decide +kernel
def tb_PT_reason_1 : ev_tab := [(116, .ireturn, 1, 117)]
theorem dt_PT_reason_1 : ev_dall m_PT_reason tb_PT_reason_1 := by decide +kernel
def tb_PT_walkToDecider_0 : ev_tab := [(0, .aload_n 0, 1, 1), (1, .astore 4, 2, 3), (3, .aload_n 1, 1, 4), (4, .astore 5, 2, 6), (6, .aload_n 2, 1, 7), (7, .astore 6, 2, 9), (9, .iconst 1, 1, 10), (10, .istore 7, 2, 12), (12, .iload 7, 2, 14), (14, .bipush 24, 2, 16), (16, .if_icmp .ge 57, 3, 19), (19, .aload 4, 2, 21), (21, .instanceof 142, 3, 24), (24, .ifCond .eq 49, 3, 27), (27, .aload 4, 2, 29), (29, .checkcast 142, 3, 32), (32, .astore 8, 2, 34), (34, .aload 8, 2, 36), (36, .aload 5, 2, 38), (38, .aload 6, 2, 40), (40, .invokevirtual 267, 3, 43), (43, .astore 4, 2, 45), (45, .aload 8, 2, 47), (47, .getfield 271, 3, 50), (50, .bipush 9, 2, 52), (52, .if_icmp .ne 15, 3, 55), (55, .aload 5, 2, 57), (57, .astore 9, 2, 59), (59, .aload 6, 2, 61), (61, .astore 5, 2, 63), (63, .aload 9, 2, 65), (65, .astore 6, 2, 67), (67, .iinc 7 1, 3, 70), (70, .goto (-58), 3, 73), (73, .iload_n 3, 1, 74), (74, .ifCond .ne 9, 3, 77), (77, .aload 4, 2, 79), (79, .getfield 252, 3, 82), (82, .ireturn, 1, 83), (83, .iload_n 3, 1, 84), (84, .iconst 1, 1, 85), (85, .if_icmp .ne 8, 3, 88), (88, .iload 7, 2, 90), (90, .goto 4, 3, 93), (93, .iconst (-1), 1, 94), (94, .ireturn, 1, 95)]
theorem dt_PT_walkToDecider_0 : ev_dall m_PT_walkToDecider tb_PT_walkToDecider_0 := by decide +kernel
def tb_Term_partThatDecides_0 : ev_tab := [(0, .aload_n 0, 1, 1), (1, .getfield 33, 3, 4), (4, .lookupswitch 78 #[(6, 28), (7, 53)], 28, 32), (32, .aload_n 0, 1, 33), (33, .getfield 19, 3, 36), (36, .aload_n 1, 1, 37), (37, .aload_n 2, 1, 38), (38, .invokevirtual 29, 3, 41), (41, .iconst 1, 1, 42), (42, .if_icmp .ne 10, 3, 45), (45, .aload_n 0, 1, 46), (46, .getfield 19, 3, 49), (49, .goto 7, 3, 52), (52, .aload_n 0, 1, 53), (53, .getfield 23, 3, 56), (56, .areturn, 1, 57), (57, .aload_n 0, 1, 58), (58, .getfield 19, 3, 61), (61, .aload_n 1, 1, 62), (62, .aload_n 2, 1, 63), (63, .invokevirtual 29, 3, 66), (66, .iconst 3, 1, 67), (67, .if_icmp .ne 10, 3, 70), (70, .aload_n 0, 1, 71), (71, .getfield 23, 3, 74), (74, .goto 7, 3, 77), (77, .aload_n 0, 1, 78), (78, .getfield 19, 3, 81), (81, .areturn, 1, 82), (82, .aload_n 0, 1, 83), (83, .getfield 19, 3, 86), (86, .areturn, 1, 87)]
theorem dt_Term_partThatDecides_0 : ev_dall m_Term_partThatDecides tb_Term_partThatDecides_0 := by decide +kernel
def tb_PT_save_0 : ev_tab := [(0, .iload_n 1, 1, 1), (1, .invokestatic 208, 3, 4), (4, .ifCond .eq 11, 3, 7), (7, .aload_n 0, 1, 8), (8, .iload_n 2, 1, 9), (9, .invokevirtual 118, 3, 12), (12, .ifCond .ne 13, 3, 15), (15, .new 98, 3, 18), (18, .dup, 1, 19), (19, .ldc 211, 2, 21), (21, .invokespecial 102, 3, 24), (24, .athrow, 1, 25), (25, .aload_n 0, 1, 26), (26, .getfield 52, 3, 29), (29, .iload_n 1, 1, 30), (30, .aaload, 1, 31), (31, .astore_n 3, 1, 32), (32, .aload_n 3, 1, 33), (33, .aload_n 0, 1, 34), (34, .getfield 18, 3, 37), (37, .iload_n 2, 1, 38), (38, .aaload, 1, 39), (39, .aload_n 0, 1, 40), (40, .getfield 29, 3, 43), (43, .invokevirtual 213, 3, 46), (46, .aload_n 0, 1, 47), (47, .aload_n 3, 1, 48), (48, .invokevirtual 217, 3, 51), (51, .aload_n 3, 1, 52), (52, .getfield 221, 3, 55), (55, .getfield 181, 3, 58), (58, .ireturn, 1, 59)]
theorem dt_PT_save_0 : ev_dall m_PT_save tb_PT_save_0 := by decide +kernel
def tb_Question_ask_0 : ev_tab := [(0, .aload_n 0, 1, 1), (1, .aload_n 1, 1, 2), (2, .putfield 9, 3, 5), (5, .aload_n 0, 1, 6), (6, .getfield 18, 3, 9), (9, .aload_n 2, 1, 10), (10, .invokevirtual 36, 3, 13), (13, .aload_n 0, 1, 14), (14, .iconst (-1), 1, 15), (15, .putfield 32, 3, 18), (18, .return_, 1, 19)]
theorem dt_Question_ask_0 : ev_dall m_Question_ask tb_Question_ask_0 := by decide +kernel
def tb_Conditions_copyFrom_0 : ev_tab := [(0, .aload_n 0, 1, 1), (1, .invokevirtual 25, 3, 4), (4, .iconst 0, 1, 5), (5, .istore_n 2, 1, 6), (6, .iload_n 2, 1, 7), (7, .aload_n 1, 1, 8), (8, .getfield 21, 3, 11), (11, .if_icmp .ge 31, 3, 14), (14, .aload_n 0, 1, 15), (15, .aload_n 1, 1, 16), (16, .getfield 9, 3, 19), (19, .iload_n 2, 1, 20), (20, .iaload, 1, 21), (21, .aload_n 1, 1, 22), (22, .getfield 15, 3, 25), (25, .iload_n 2, 1, 26), (26, .iaload, 1, 27), (27, .aload_n 1, 1, 28), (28, .getfield 18, 3, 31), (31, .iload_n 2, 1, 32), (32, .iaload, 1, 33), (33, .invokevirtual 28, 3, 36), (36, .iinc 2 1, 3, 39), (39, .goto (-33), 3, 42), (42, .return_, 1, 43)]
theorem dt_Conditions_copyFrom_0 : ev_dall m_Conditions_copyFrom tb_Conditions_copyFrom_0 := by decide +kernel
def tb_PT_reduce_0 : ev_tab := [(0, .aload_n 0, 1, 1), (1, .iload_n 1, 1, 2), (2, .invokevirtual 118, 3, 5), (5, .ifCond .ne 13, 3, 8), (8, .new 98, 3, 11), (11, .dup, 1, 12), (12, .ldc 171, 2, 14), (14, .invokespecial 102, 3, 17), (17, .athrow, 1, 18), (18, .aload_n 0, 1, 19), (19, .aload_n 0, 1, 20), (20, .getfield 18, 3, 23), (23, .iload_n 1, 1, 24), (24, .aaload, 1, 25), (25, .aload_n 0, 1, 26), (26, .getfield 59, 3, 29), (29, .iconst 0, 1, 30), (30, .invokevirtual 233, 3, 33), (33, .putfield 63, 3, 36), (36, .aload_n 0, 1, 37), (37, .getfield 63, 3, 40), (40, .ireturn, 1, 41)]
theorem dt_PT_reduce_0 : ev_dall m_PT_reduce tb_PT_reduce_0 := by decide +kernel
def tb_Order_putReduced_0 : ev_tab := [(0, .aload_n 1, 1, 1), (1, .iload_n 2, 1, 2), (2, .aload_n 0, 1, 3), (3, .getfield 19, 3, 6), (6, .iastore, 1, 7), (7, .aload_n 1, 1, 8), (8, .iload_n 2, 1, 9), (9, .iconst 1, 1, 10), (10, .iadd, 1, 11), (11, .aload_n 0, 1, 12), (12, .getfield 9, 3, 15), (15, .iastore, 1, 16), (16, .aload_n 0, 1, 17), (17, .aload_n 1, 1, 18), (18, .iload_n 2, 1, 19), (19, .iconst 2, 1, 20), (20, .iadd, 1, 21), (21, .invokevirtual 22, 3, 24), (24, .ireturn, 1, 25)]
theorem dt_Order_putReduced_0 : ev_dall m_Order_putReduced tb_Order_putReduced_0 := by decide +kernel
def tb_ValueOrder_putOwn_0 : ev_tab := [(0, .aload_n 0, 1, 1), (1, .getfield 18, 3, 4), (4, .ifCond .eq 11, 3, 7), (7, .aload_n 0, 1, 8), (8, .getfield 18, 3, 11), (11, .iconst 1, 1, 12), (12, .if_icmp .ne 5, 3, 15), (15, .iload_n 2, 1, 16), (16, .ireturn, 1, 17), (17, .aload_n 1, 1, 18), (18, .iload_n 2, 1, 19), (19, .aload_n 0, 1, 20), (20, .getfield 9, 3, 23), (23, .iastore, 1, 24), (24, .aload_n 0, 1, 25), (25, .getfield 18, 3, 28), (28, .iconst 2, 1, 29), (29, .if_icmp .ne 7, 3, 32), (32, .iload_n 2, 1, 33), (33, .iconst 1, 1, 34), (34, .iadd, 1, 35), (35, .ireturn, 1, 36), (36, .aload_n 1, 1, 37), (37, .iload_n 2, 1, 38), (38, .iconst 1, 1, 39), (39, .iadd, 1, 40), (40, .aload_n 0, 1, 41), (41, .getfield 15, 3, 44), (44, .iastore, 1, 45), (45, .iload_n 2, 1, 46), (46, .iconst 2, 1, 47), (47, .iadd, 1, 48), (48, .ireturn, 1, 49)]
theorem dt_ValueOrder_putOwn_0 : ev_dall m_ValueOrder_putOwn tb_ValueOrder_putOwn_0 := by decide +kernel
def tb_Order_putOwn_0 : ev_tab := [(0, .aload_n 1, 1, 1), (1, .iload_n 2, 1, 2), (2, .aload_n 0, 1, 3), (3, .getfield 26, 3, 6), (6, .iastore, 1, 7), (7, .iload_n 2, 1, 8), (8, .iconst 1, 1, 9), (9, .iadd, 1, 10), (10, .ireturn, 1, 11)]
theorem dt_Order_putOwn_0 : ev_dall m_Order_putOwn tb_Order_putOwn_0 := by decide +kernel
def tb_Term_putReduced_0 : ev_tab := [(0, .aload_n 1, 1, 1), (1, .iload_n 2, 1, 2), (2, .aload_n 0, 1, 3), (3, .getfield 33, 3, 6), (6, .iastore, 1, 7), (7, .aload_n 0, 1, 8), (8, .getfield 19, 3, 11), (11, .aload_n 1, 1, 12), (12, .iload_n 2, 1, 13), (13, .iconst 1, 1, 14), (14, .iadd, 1, 15), (15, .invokevirtual 44, 3, 18), (18, .istore_n 3, 1, 19), (19, .aload_n 0, 1, 20), (20, .getfield 33, 3, 23), (23, .bipush 9, 2, 25), (25, .if_icmp .ne 10, 3, 28), (28, .aload_n 1, 1, 29), (29, .iload_n 2, 1, 30), (30, .iload_n 3, 1, 31), (31, .invokestatic 48, 3, 34), (34, .ireturn, 1, 35), (35, .aload_n 0, 1, 36), (36, .getfield 23, 3, 39), (39, .aload_n 1, 1, 40), (40, .iload_n 3, 1, 41), (41, .invokevirtual 44, 3, 44), (44, .istore 4, 2, 46), (46, .aload_n 1, 1, 47), (47, .iload_n 2, 1, 48), (48, .iconst 1, 1, 49), (49, .iadd, 1, 50), (50, .iload_n 3, 1, 51), (51, .iload 4, 2, 53), (53, .invokestatic 52, 3, 56), (56, .ifCond .ne 10, 3, 59), (59, .aload_n 0, 1, 60), (60, .invokevirtual 56, 3, 63), (63, .ifCond .eq 13, 3, 66), (66, .aload_n 1, 1, 67), (67, .iload_n 2, 1, 68), (68, .iconst 1, 1, 69), (69, .iadd, 1, 70), (70, .iload_n 3, 1, 71), (71, .iconst 1, 1, 72), (72, .invokestatic 60, 3, 75), (75, .ireturn, 1, 76), (76, .aload_n 0, 1, 77), (77, .getfield 33, 3, 80), (80, .bipush 7, 2, 82), (82, .if_icmp .eq 30, 3, 85), (85, .aload_n 1, 1, 86), (86, .iload_n 2, 1, 87), (87, .iconst 1, 1, 88), (88, .iadd, 1, 89), (89, .iaload, 1, 90), (90, .bipush 9, 2, 92), (92, .if_icmp .ne 20, 3, 95), (95, .aload_n 1, 1, 96), (96, .iload_n 3, 1, 97)]
theorem dt_Term_putReduced_0 : ev_dall m_Term_putReduced tb_Term_putReduced_0 := by decide +kernel
def tb_Term_putReduced_1 : ev_tab := [(97, .iaload, 1, 98), (98, .bipush 9, 2, 100), (100, .if_icmp .ne 12, 3, 103), (103, .aload_n 1, 1, 104), (104, .iload_n 2, 1, 105), (105, .iload_n 3, 1, 106), (106, .iload 4, 2, 108), (108, .invokestatic 64, 3, 111), (111, .ireturn, 1, 112), (112, .iload 4, 2, 114), (114, .ireturn, 1, 115)]
theorem dt_Term_putReduced_1 : ev_dall m_Term_putReduced tb_Term_putReduced_1 := by decide +kernel
def tb_Term_reduceDual_0 : ev_tab := [(0, .aload_n 0, 1, 1), (1, .iload_n 1, 1, 2), (2, .iconst 1, 1, 3), (3, .iadd, 1, 4), (4, .iaload, 1, 5), (5, .istore_n 3, 1, 6), (6, .iload_n 3, 1, 7), (7, .bipush 9, 2, 9), (9, .if_icmp .ne 13, 3, 12), (12, .aload_n 0, 1, 13), (13, .iload_n 1, 1, 14), (14, .iconst 2, 1, 15), (15, .iadd, 1, 16), (16, .iload_n 2, 1, 17), (17, .iconst 2, 1, 18), (18, .invokestatic 60, 3, 21), (21, .ireturn, 1, 22), (22, .iload_n 3, 1, 23), (23, .ifCond .eq 8, 3, 26), (26, .iload_n 3, 1, 27), (27, .iconst 1, 1, 28), (28, .if_icmp .ne 27, 3, 31), (31, .aload_n 0, 1, 32), (32, .iload_n 1, 1, 33), (33, .iconst 1, 1, 34), (34, .iadd, 1, 35), (35, .iload_n 3, 1, 36), (36, .ifCond .ne 7, 3, 39), (39, .iconst 1, 1, 40), (40, .goto 4, 3, 43), (43, .iconst 0, 1, 44), (44, .iastore, 1, 45), (45, .aload_n 0, 1, 46), (46, .iload_n 1, 1, 47), (47, .iconst 1, 1, 48), (48, .iadd, 1, 49), (49, .iload_n 2, 1, 50), (50, .iconst 1, 1, 51), (51, .invokestatic 60, 3, 54), (54, .ireturn, 1, 55), (55, .iload_n 2, 1, 56), (56, .ireturn, 1, 57)]
theorem dt_Term_reduceDual_0 : ev_dall m_Term_reduceDual tb_Term_reduceDual_0 := by decide +kernel
def tb_Term_moveBack_0 : ev_tab := [(0, .aload_n 0, 1, 1), (1, .iload_n 1, 1, 2), (2, .aload_n 0, 1, 3), (3, .iload_n 1, 1, 4), (4, .iload_n 3, 1, 5), (5, .isub, 1, 6), (6, .iload_n 2, 1, 7), (7, .iload_n 1, 1, 8), (8, .isub, 1, 9), (9, .invokestatic 67, 3, 12), (12, .iload_n 2, 1, 13), (13, .iload_n 3, 1, 14), (14, .isub, 1, 15), (15, .ireturn, 1, 16)]
theorem dt_Term_moveBack_0 : ev_dall m_Term_moveBack tb_Term_moveBack_0 := by decide +kernel
def tb_Term_areAlike_0 : ev_tab := [(0, .iload_n 2, 1, 1), (1, .iload_n 1, 1, 2), (2, .isub, 1, 3), (3, .istore 4, 2, 5), (5, .iload_n 3, 1, 6), (6, .iload_n 2, 1, 7), (7, .isub, 1, 8), (8, .iload 4, 2, 10), (10, .if_icmp .eq 5, 3, 13), (13, .iconst 0, 1, 14), (14, .ireturn, 1, 15), (15, .iconst 0, 1, 16), (16, .istore 5, 2, 18), (18, .iload 5, 2, 20), (20, .iload 4, 2, 22), (22, .if_icmp .ge 26, 3, 25), (25, .aload_n 0, 1, 26), (26, .iload_n 1, 1, 27), (27, .iload 5, 2, 29), (29, .iadd, 1, 30), (30, .iaload, 1, 31), (31, .aload_n 0, 1, 32), (32, .iload_n 2, 1, 33), (33, .iload 5, 2, 35), (35, .iadd, 1, 36), (36, .iaload, 1, 37), (37, .if_icmp .eq 5, 3, 40), (40, .iconst 0, 1, 41), (41, .ireturn, 1, 42), (42, .iinc 5 1, 3, 45), (45, .goto (-27), 3, 48), (48, .iconst 1, 1, 49), (49, .ireturn, 1, 50)]
theorem dt_Term_areAlike_0 : ev_dall m_Term_areAlike tb_Term_areAlike_0 := by decide +kernel
def tb_Term_pDecidesAlone_0 : ev_tab := [(0, .aload_n 0, 1, 1), (1, .getfield 33, 3, 4), (4, .bipush 7, 2, 6), (6, .if_icmp .ne 27, 3, 9), (9, .aload_n 0, 1, 10), (10, .getfield 23, 3, 13), (13, .getfield 9, 3, 16), (16, .aload_n 0, 1, 17), (17, .getfield 19, 3, 20), (20, .getfield 9, 3, 23), (23, .iconst (-1), 1, 24), (24, .ixor, 1, 25), (25, .iand, 1, 26), (26, .ifCond .ne 7, 3, 29), (29, .iconst 1, 1, 30), (30, .goto 4, 3, 33), (33, .iconst 0, 1, 34), (34, .ireturn, 1, 35)]
theorem dt_Term_pDecidesAlone_0 : ev_dall m_Term_pDecidesAlone tb_Term_pDecidesAlone_0 := by decide +kernel
def tb_Term_pullDualOut_0 : ev_tab := [(0, .aload_n 0, 1, 1), (1, .iload_n 1, 1, 2), (2, .iconst 1, 1, 3), (3, .iadd, 1, 4), (4, .aload_n 0, 1, 5), (5, .iload_n 1, 1, 6), (6, .iaload, 1, 7), (7, .iastore, 1, 8), (8, .aload_n 0, 1, 9), (9, .iload_n 1, 1, 10), (10, .bipush 9, 2, 12), (12, .iastore, 1, 13), (13, .aload_n 0, 1, 14), (14, .iload_n 2, 1, 15), (15, .iconst 1, 1, 16), (16, .iadd, 1, 17), (17, .iload_n 3, 1, 18), (18, .iconst 1, 1, 19), (19, .invokestatic 60, 3, 22), (22, .ireturn, 1, 23)]
theorem dt_Term_pullDualOut_0 : ev_dall m_Term_pullDualOut tb_Term_pullDualOut_0 := by decide +kernel
def tb_PT_form_0 : ev_tab := [(0, .iload_n 1, 1, 1), (1, .ifCond .lt 11, 3, 4), (4, .iload_n 1, 1, 5), (5, .aload_n 0, 1, 6), (6, .getfield 63, 3, 9), (9, .if_icmp .lt 13, 3, 12), (12, .new 98, 3, 15), (15, .dup, 1, 16), (16, .ldc 237, 2, 18), (18, .invokespecial 102, 3, 21), (21, .athrow, 1, 22), (22, .aload_n 0, 1, 23), (23, .getfield 59, 3, 26), (26, .iload_n 1, 1, 27), (27, .iaload, 1, 28), (28, .ireturn, 1, 29)]
theorem dt_PT_form_0 : ev_dall m_PT_form tb_PT_form_0 := by decide +kernel
end
section
/-! Decode tables (written by gen_lean.py). -/
def tb_Md_init_0 : ev_tab := [(0, .aload_n 0, 1, 1), (1, .invokespecial 1, 3, 4), (4, .aload_n 0, 1, 5), (5, .bipush 120, 2, 7), (7, .newarray .boolean, 2, 9), (9, .putfield 7, 3, 12), (12, .aload_n 0, 1, 13), (13, .sipush 480, 3, 16), (16, .newarray .int, 2, 18), (18, .putfield 13, 3, 21), (21, .aload_n 0, 1, 22), (22, .bipush 24, 2, 24), (24, .newarray .int, 2, 26), (26, .putfield 17, 3, 29), (29, .aload_n 0, 1, 30), (30, .bipush 24, 2, 32), (32, .newarray .int, 2, 34), (34, .putfield 20, 3, 37), (37, .aload_n 0, 1, 38), (38, .bipush 24, 2, 40), (40, .newarray .int, 2, 42), (42, .putfield 23, 3, 45), (45, .aload_n 0, 1, 46), (46, .bipush 24, 2, 48), (48, .newarray .int, 2, 50), (50, .putfield 26, 3, 53), (53, .aload_n 0, 1, 54), (54, .bipush 24, 2, 56), (56, .newarray .int, 2, 58), (58, .putfield 29, 3, 61), (61, .aload_n 0, 1, 62), (62, .sipush 240, 3, 65), (65, .newarray .int, 2, 67), (67, .putfield 32, 3, 70), (70, .aload_n 0, 1, 71), (71, .sipush 240, 3, 74), (74, .newarray .int, 2, 76), (76, .putfield 35, 3, 79), (79, .aload_n 0, 1, 80), (80, .bipush 24, 2, 82), (82, .newarray .int, 2, 84), (84, .putfield 38, 3, 87), (87, .aload_n 0, 1, 88), (88, .iconst 5, 1, 89), (89, .newarray .int, 2, 91), (91, .putfield 41, 3, 94), (94, .aload_n 0, 1, 95), (95, .bipush 20, 2, 97), (97, .newarray .int, 2, 99), (99, .putfield 44, 3, 102), (102, .aload_n 0, 1, 103), (103, .bipush 20, 2, 105), (105, .newarray .int, 2, 107), (107, .putfield 47, 3, 110), (110, .aload_n 0, 1, 111), (111, .bipush 20, 2, 113), (113, .newarray .int, 2, 115), (115, .putfield 50, 3, 118), (118, .aload_n 0, 1, 119), (119, .iconst 4, 1, 120)]
theorem dt_Md_init_0 : ev_dall m_Md_init tb_Md_init_0 := by decide +kernel
def tb_Md_init_1 : ev_tab := [(120, .newarray .boolean, 2, 122), (122, .putfield 53, 3, 125), (125, .aload_n 0, 1, 126), (126, .iconst 4, 1, 127), (127, .newarray .int, 2, 129), (129, .putfield 56, 3, 132), (132, .aload_n 0, 1, 133), (133, .sipush 480, 3, 136), (136, .newarray .boolean, 2, 138), (138, .putfield 59, 3, 141), (141, .aload_n 0, 1, 142), (142, .bipush 120, 2, 144), (144, .newarray .boolean, 2, 146), (146, .putfield 62, 3, 149), (149, .aload_n 0, 1, 150), (150, .bipush 120, 2, 152), (152, .newarray .int, 2, 154), (154, .putfield 65, 3, 157), (157, .aload_n 0, 1, 158), (158, .bipush 24, 2, 160), (160, .newarray .int, 2, 162), (162, .putfield 68, 3, 165), (165, .aload_n 0, 1, 166), (166, .bipush 100, 2, 168), (168, .newarray .int, 2, 170), (170, .putfield 71, 3, 173), (173, .aload_n 0, 1, 174), (174, .bipush 100, 2, 176), (176, .newarray .int, 2, 178), (178, .putfield 74, 3, 181), (181, .aload_n 0, 1, 182), (182, .bipush 100, 2, 184), (184, .newarray .int, 2, 186), (186, .putfield 77, 3, 189), (189, .aload_n 0, 1, 190), (190, .bipush 100, 2, 192), (192, .newarray .int, 2, 194), (194, .putfield 80, 3, 197), (197, .aload_n 0, 1, 198), (198, .bipush 100, 2, 200), (200, .newarray .int, 2, 202), (202, .putfield 83, 3, 205), (205, .aload_n 0, 1, 206), (206, .bipush 24, 2, 208), (208, .newarray .int, 2, 210), (210, .putfield 86, 3, 213), (213, .aload_n 0, 1, 214), (214, .sipush 200, 3, 217), (217, .newarray .int, 2, 219), (219, .putfield 89, 3, 222), (222, .aload_n 0, 1, 223), (223, .bipush 100, 2, 225), (225, .newarray .int, 2, 227), (227, .putfield 92, 3, 230), (230, .return_, 1, 231)]
theorem dt_Md_init_1 : ev_dall m_Md_init tb_Md_init_1 := by decide +kernel
def tb_Md_thrown_0 : ev_tab := [(0, .aload_n 0, 1, 1), (1, .getfield 95, 3, 4), (4, .ireturn, 1, 5)]
theorem dt_Md_thrown_0 : ev_dall m_Md_thrown tb_Md_thrown_0 := by decide +kernel
def tb_Md_row_0 : ev_tab := [(0, .aload_n 0, 1, 1), (1, .aload_n 0, 1, 2), (2, .getfield 99, 3, 5), (5, .bipush 120, 2, 7), (7, .if_icmp .eq 12, 3, 10), (10, .aload_n 0, 1, 11), (11, .invokevirtual 105, 3, 14), (14, .bipush 24, 2, 16), (16, .if_icmp .ne 7, 3, 19), (19, .iconst 1, 1, 20), (20, .goto 4, 3, 23), (23, .iconst 0, 1, 24), (24, .putfield 95, 3, 27), (27, .aload_n 0, 1, 28), (28, .getfield 95, 3, 31), (31, .ifCond .le 5, 3, 34), (34, .iconst 0, 1, 35), (35, .ireturn, 1, 36), (36, .aload_n 0, 1, 37), (37, .getfield 13, 3, 40), (40, .iconst 4, 1, 41), (41, .aload_n 0, 1, 42), (42, .getfield 99, 3, 45), (45, .imul, 1, 46), (46, .iload_n 1, 1, 47), (47, .iastore, 1, 48), (48, .aload_n 0, 1, 49), (49, .getfield 13, 3, 52), (52, .iconst 4, 1, 53), (53, .aload_n 0, 1, 54), (54, .getfield 99, 3, 57), (57, .imul, 1, 58), (58, .iconst 1, 1, 59), (59, .iadd, 1, 60), (60, .iload_n 2, 1, 61), (61, .iastore, 1, 62), (62, .aload_n 0, 1, 63), (63, .getfield 13, 3, 66), (66, .iconst 4, 1, 67), (67, .aload_n 0, 1, 68), (68, .getfield 99, 3, 71), (71, .imul, 1, 72), (72, .iconst 2, 1, 73), (73, .iadd, 1, 74), (74, .iload_n 3, 1, 75), (75, .iastore, 1, 76), (76, .aload_n 0, 1, 77), (77, .getfield 13, 3, 80), (80, .iconst 4, 1, 81), (81, .aload_n 0, 1, 82), (82, .getfield 99, 3, 85), (85, .imul, 1, 86), (86, .iconst 3, 1, 87), (87, .iadd, 1, 88), (88, .iload 4, 2, 90), (90, .iastore, 1, 91), (91, .aload_n 0, 1, 92), (92, .getfield 7, 3, 95), (95, .aload_n 0, 1, 96), (96, .getfield 99, 3, 99)]
theorem dt_Md_row_0 : ev_dall m_Md_row tb_Md_row_0 := by decide +kernel
def tb_Md_row_1 : ev_tab := [(99, .iconst 1, 1, 100), (100, .bastore, 1, 101), (101, .aload_n 0, 1, 102), (102, .dup, 1, 103), (103, .getfield 99, 3, 106), (106, .iconst 1, 1, 107), (107, .iadd, 1, 108), (108, .putfield 99, 3, 111), (111, .aload_n 0, 1, 112), (112, .getfield 99, 3, 115), (115, .iconst 1, 1, 116), (116, .isub, 1, 117), (117, .ireturn, 1, 118)]
theorem dt_Md_row_1 : ev_dall m_Md_row tb_Md_row_1 := by decide +kernel
def tb_Md_present_0 : ev_tab := [(0, .iconst 0, 1, 1), (1, .istore_n 1, 1, 2), (2, .iconst 0, 1, 3), (3, .istore_n 2, 1, 4), (4, .iload_n 2, 1, 5), (5, .aload_n 0, 1, 6), (6, .getfield 99, 3, 9), (9, .if_icmp .ge 26, 3, 12), (12, .iload_n 1, 1, 13), (13, .aload_n 0, 1, 14), (14, .getfield 7, 3, 17), (17, .iload_n 2, 1, 18), (18, .baload, 1, 19), (19, .ifCond .eq 7, 3, 22), (22, .iconst 1, 1, 23), (23, .goto 4, 3, 26), (26, .iconst 0, 1, 27), (27, .iadd, 1, 28), (28, .istore_n 1, 1, 29), (29, .iinc 2 1, 3, 32), (32, .goto (-28), 3, 35), (35, .iload_n 1, 1, 36), (36, .ireturn, 1, 37)]
theorem dt_Md_present_0 : ev_dall m_Md_present tb_Md_present_0 := by decide +kernel
def tb_Md_change_0 : ev_tab := [(0, .aload_n 0, 1, 1), (1, .iconst 0, 1, 2), (2, .putfield 95, 3, 5), (5, .aload_n 0, 1, 6), (6, .iload_n 1, 1, 7), (7, .invokevirtual 109, 3, 10), (10, .ifCond .eq 10, 3, 13), (13, .iload_n 2, 1, 14), (14, .invokestatic 113, 3, 17), (17, .ifCond .ne 5, 3, 20), (20, .iconst 0, 1, 21), (21, .ireturn, 1, 22), (22, .aload_n 0, 1, 23), (23, .getfield 13, 3, 26), (26, .iconst 4, 1, 27), (27, .iload_n 1, 1, 28), (28, .imul, 1, 29), (29, .iload_n 2, 1, 30), (30, .iadd, 1, 31), (31, .iload_n 3, 1, 32), (32, .iastore, 1, 33), (33, .iconst 1, 1, 34), (34, .ireturn, 1, 35)]
theorem dt_Md_change_0 : ev_dall m_Md_change tb_Md_change_0 := by decide +kernel
def tb_Md_isRow_0 : ev_tab := [(0, .iload_n 1, 1, 1), (1, .ifCond .lt 38, 3, 4), (4, .iload_n 1, 1, 5), (5, .aload_n 0, 1, 6), (6, .getfield 99, 3, 9), (9, .if_icmp .ge 30, 3, 12), (12, .aload_n 0, 1, 13), (13, .getfield 7, 3, 16), (16, .iload_n 1, 1, 17), (17, .ifCond .lt 9, 3, 20), (20, .iload_n 1, 1, 21), (21, .bipush 119, 2, 23), (23, .if_icmp .le 7, 3, 26), (26, .iconst 0, 1, 27), (27, .goto 4, 3, 30), (30, .iload_n 1, 1, 31), (31, .baload, 1, 32), (32, .ifCond .eq 7, 3, 35), (35, .iconst 1, 1, 36), (36, .goto 4, 3, 39), (39, .iconst 0, 1, 40), (40, .ireturn, 1, 41)]
theorem dt_Md_isRow_0 : ev_dall m_Md_isRow tb_Md_isRow_0 := by decide +kernel
def tb_Md_isColumn_0 : ev_tab := [(0, .iload_n 0, 1, 1), (1, .ifCond .lt 12, 3, 4), (4, .iload_n 0, 1, 5), (5, .iconst 4, 1, 6), (6, .if_icmp .ge 7, 3, 9), (9, .iconst 1, 1, 10), (10, .goto 4, 3, 13), (13, .iconst 0, 1, 14), (14, .ireturn, 1, 15)]
theorem dt_Md_isColumn_0 : ev_dall m_Md_isColumn tb_Md_isColumn_0 := by decide +kernel
def tb_Md_remove_0 : ev_tab := [(0, .aload_n 0, 1, 1), (1, .iconst 0, 1, 2), (2, .putfield 95, 3, 5), (5, .aload_n 0, 1, 6), (6, .iload_n 1, 1, 7), (7, .invokevirtual 109, 3, 10), (10, .ifCond .ne 5, 3, 13), (13, .iconst 0, 1, 14), (14, .ireturn, 1, 15), (15, .aload_n 0, 1, 16), (16, .getfield 7, 3, 19), (19, .iload_n 1, 1, 20), (20, .iconst 0, 1, 21), (21, .bastore, 1, 22), (22, .iconst 1, 1, 23), (23, .ireturn, 1, 24)]
theorem dt_Md_remove_0 : ev_dall m_Md_remove tb_Md_remove_0 := by decide +kernel
def tb_Md_value_0 : ev_tab := [(0, .aload_n 0, 1, 1), (1, .aload_n 0, 1, 2), (2, .iload_n 1, 1, 3), (3, .invokevirtual 109, 3, 6), (6, .ifCond .eq 14, 3, 9), (9, .iload_n 2, 1, 10), (10, .invokestatic 113, 3, 13), (13, .ifCond .eq 7, 3, 16), (16, .iconst 0, 1, 17), (17, .goto 4, 3, 20), (20, .iconst 1, 1, 21), (21, .putfield 95, 3, 24), (24, .aload_n 0, 1, 25), (25, .getfield 95, 3, 28), (28, .ifCond .le 7, 3, 31), (31, .iconst 0, 1, 32), (32, .goto 13, 3, 35), (35, .aload_n 0, 1, 36), (36, .getfield 13, 3, 39), (39, .iconst 4, 1, 40), (40, .iload_n 1, 1, 41), (41, .imul, 1, 42), (42, .iload_n 2, 1, 43), (43, .iadd, 1, 44), (44, .iaload, 1, 45), (45, .ireturn, 1, 46)]
theorem dt_Md_value_0 : ev_dall m_Md_value tb_Md_value_0 := by decide +kernel
def tb_Md_order_0 : ev_tab := [(0, .aload_n 0, 1, 1), (1, .iload_n 1, 1, 2), (2, .ifCond .lt 26, 3, 5), (5, .iload_n 1, 1, 6), (6, .iconst 5, 1, 7), (7, .if_icmp .gt 21, 3, 10), (10, .iload_n 2, 1, 11), (11, .invokestatic 113, 3, 14), (14, .ifCond .eq 14, 3, 17), (17, .iload_n 1, 1, 18), (18, .iconst 3, 1, 19), (19, .if_icmp .ne 13, 3, 22), (22, .iload_n 3, 1, 23), (23, .iload 4, 2, 25), (25, .if_icmp .le 7, 3, 28), (28, .iconst 1, 1, 29), (29, .goto 17, 3, 32), (32, .aload_n 0, 1, 33), (33, .getfield 102, 3, 36), (36, .bipush 24, 2, 38), (38, .if_icmp .ne 7, 3, 41), (41, .iconst 2, 1, 42), (42, .goto 4, 3, 45), (45, .iconst 0, 1, 46), (46, .putfield 95, 3, 49), (49, .aload_n 0, 1, 50), (50, .getfield 95, 3, 53), (53, .ifCond .le 5, 3, 56), (56, .iconst 0, 1, 57), (57, .ireturn, 1, 58), (58, .aload_n 0, 1, 59), (59, .getfield 17, 3, 62), (62, .aload_n 0, 1, 63), (63, .getfield 102, 3, 66), (66, .iload_n 1, 1, 67), (67, .iastore, 1, 68), (68, .aload_n 0, 1, 69), (69, .getfield 20, 3, 72), (72, .aload_n 0, 1, 73), (73, .getfield 102, 3, 76), (76, .iload_n 2, 1, 77), (77, .iastore, 1, 78), (78, .aload_n 0, 1, 79), (79, .getfield 23, 3, 82), (82, .aload_n 0, 1, 83), (83, .getfield 102, 3, 86), (86, .iload_n 3, 1, 87), (87, .iastore, 1, 88), (88, .aload_n 0, 1, 89), (89, .getfield 26, 3, 92), (92, .aload_n 0, 1, 93), (93, .getfield 102, 3, 96), (96, .iload 4, 2, 98), (98, .iastore, 1, 99), (99, .aload_n 0, 1, 100), (100, .getfield 29, 3, 103), (103, .aload_n 0, 1, 104), (104, .getfield 102, 3, 107), (107, .iconst 1, 1, 108), (108, .iastore, 1, 109)]
theorem dt_Md_order_0 : ev_dall m_Md_order tb_Md_order_0 := by decide +kernel
def tb_Md_order_1 : ev_tab := [(109, .iconst 0, 1, 110), (110, .istore 5, 2, 112), (112, .iload 5, 2, 114), (114, .bipush 10, 2, 116), (116, .if_icmp .ge 41, 3, 119), (119, .aload_n 0, 1, 120), (120, .getfield 32, 3, 123), (123, .bipush 10, 2, 125), (125, .aload_n 0, 1, 126), (126, .getfield 102, 3, 129), (129, .imul, 1, 130), (130, .iload 5, 2, 132), (132, .iadd, 1, 133), (133, .iconst (-1), 1, 134), (134, .iastore, 1, 135), (135, .aload_n 0, 1, 136), (136, .getfield 35, 3, 139), (139, .bipush 10, 2, 141), (141, .aload_n 0, 1, 142), (142, .getfield 102, 3, 145), (145, .imul, 1, 146), (146, .iload 5, 2, 148), (148, .iadd, 1, 149), (149, .iconst 0, 1, 150), (150, .iastore, 1, 151), (151, .iinc 5 1, 3, 154), (154, .goto (-42), 3, 157), (157, .aload_n 0, 1, 158), (158, .dup, 1, 159), (159, .getfield 102, 3, 162), (162, .iconst 1, 1, 163), (163, .iadd, 1, 164), (164, .putfield 102, 3, 167), (167, .aload_n 0, 1, 168), (168, .getfield 102, 3, 171), (171, .iconst 1, 1, 172), (172, .isub, 1, 173), (173, .ireturn, 1, 174)]
theorem dt_Md_order_1 : ev_dall m_Md_order tb_Md_order_1 := by decide +kernel
def tb_Md_layer_0 : ev_tab := [(0, .aload_n 0, 1, 1), (1, .iconst 0, 1, 2), (2, .putfield 95, 3, 5), (5, .aload_n 0, 1, 6), (6, .iload_n 1, 1, 7), (7, .invokevirtual 116, 3, 10), (10, .ifCond .eq 20, 3, 13), (13, .iload_n 2, 1, 14), (14, .invokestatic 119, 3, 17), (17, .ifCond .eq 13, 3, 20), (20, .iload_n 3, 1, 21), (21, .iconst (-1), 1, 22), (22, .if_icmp .lt 8, 3, 25), (25, .iload_n 3, 1, 26), (26, .iconst 5, 1, 27), (27, .if_icmp .le 5, 3, 30), (30, .iconst 0, 1, 31), (31, .ireturn, 1, 32), (32, .aload_n 0, 1, 33), (33, .getfield 17, 3, 36), (36, .iload_n 1, 1, 37), (37, .iaload, 1, 38), (38, .iconst 4, 1, 39), (39, .if_icmp .eq 5, 3, 42), (42, .iconst 0, 1, 43), (43, .ireturn, 1, 44), (44, .aload_n 0, 1, 45), (45, .getfield 32, 3, 48), (48, .bipush 10, 2, 50), (50, .iload_n 1, 1, 51), (51, .imul, 1, 52), (52, .iload_n 2, 1, 53), (53, .iadd, 1, 54), (54, .iload_n 3, 1, 55), (55, .iastore, 1, 56), (56, .iconst 1, 1, 57), (57, .ireturn, 1, 58)]
theorem dt_Md_layer_0 : ev_dall m_Md_layer tb_Md_layer_0 := by decide +kernel
def tb_Md_isNode_0 : ev_tab := [(0, .iload_n 1, 1, 1), (1, .ifCond .lt 15, 3, 4), (4, .iload_n 1, 1, 5), (5, .aload_n 0, 1, 6), (6, .getfield 102, 3, 9), (9, .if_icmp .ge 7, 3, 12), (12, .iconst 1, 1, 13), (13, .goto 4, 3, 16), (16, .iconst 0, 1, 17), (17, .ireturn, 1, 18)]
theorem dt_Md_isNode_0 : ev_dall m_Md_isNode tb_Md_isNode_0 := by decide +kernel
def tb_Md_isPlain_0 : ev_tab := [(0, .iload_n 0, 1, 1), (1, .ifCond .lt 13, 3, 4), (4, .iload_n 0, 1, 5), (5, .bipush 10, 2, 7), (7, .if_icmp .ge 7, 3, 10), (10, .iconst 1, 1, 11), (11, .goto 4, 3, 14), (14, .iconst 0, 1, 15), (15, .ireturn, 1, 16)]
theorem dt_Md_isPlain_0 : ev_dall m_Md_isPlain tb_Md_isPlain_0 := by decide +kernel
def tb_Md_edge_0 : ev_tab := [(0, .aload_n 0, 1, 1), (1, .aload_n 0, 1, 2), (2, .iload_n 1, 1, 3), (3, .invokevirtual 116, 3, 6), (6, .ifCond .eq 17, 3, 9), (9, .iload_n 2, 1, 10), (10, .invokestatic 119, 3, 13), (13, .ifCond .eq 10, 3, 16), (16, .iload_n 3, 1, 17), (17, .invokestatic 119, 3, 20), (20, .ifCond .ne 7, 3, 23), (23, .iconst 1, 1, 24), (24, .goto 4, 3, 27), (27, .iconst 0, 1, 28), (28, .putfield 95, 3, 31), (31, .aload_n 0, 1, 32), (32, .getfield 95, 3, 35), (35, .ifCond .le 5, 3, 38), (38, .iconst 0, 1, 39), (39, .ireturn, 1, 40), (40, .aload_n 0, 1, 41), (41, .aload_n 0, 1, 42), (42, .getfield 17, 3, 45), (45, .iload_n 1, 1, 46), (46, .iaload, 1, 47), (47, .iconst 5, 1, 48), (48, .if_icmp .eq 7, 3, 51), (51, .iconst 1, 1, 52), (52, .goto 4, 3, 55), (55, .iconst 0, 1, 56), (56, .putfield 95, 3, 59), (59, .aload_n 0, 1, 60), (60, .getfield 95, 3, 63), (63, .ifCond .gt 22, 3, 66), (66, .aload_n 0, 1, 67), (67, .getfield 35, 3, 70), (70, .bipush 10, 2, 72), (72, .iload_n 1, 1, 73), (73, .imul, 1, 74), (74, .iload_n 2, 1, 75), (75, .iadd, 1, 76), (76, .iaload, 1, 77), (77, .iload_n 3, 1, 78), (78, .ishr, 1, 79), (79, .iconst 1, 1, 80), (80, .iand, 1, 81), (81, .iconst 1, 1, 82), (82, .if_icmp .ne 5, 3, 85), (85, .iconst 0, 1, 86), (86, .ireturn, 1, 87), (87, .aload_n 0, 1, 88), (88, .iload_n 2, 1, 89), (89, .iload_n 3, 1, 90), (90, .if_icmp .eq 17, 3, 93), (93, .aload_n 0, 1, 94), (94, .iload_n 1, 1, 95), (95, .iload_n 3, 1, 96), (96, .invokevirtual 122, 3, 99), (99, .iload_n 2, 1, 100), (100, .ishr, 1, 101)]
theorem dt_Md_edge_0 : ev_dall m_Md_edge tb_Md_edge_0 := by decide +kernel
def tb_Md_edge_1 : ev_tab := [(101, .iconst 1, 1, 102), (102, .iand, 1, 103), (103, .iconst 1, 1, 104), (104, .if_icmp .ne 7, 3, 107), (107, .iconst 2, 1, 108), (108, .goto 4, 3, 111), (111, .iconst 0, 1, 112), (112, .putfield 95, 3, 115), (115, .aload_n 0, 1, 116), (116, .getfield 95, 3, 119), (119, .ifCond .le 5, 3, 122), (122, .iconst 0, 1, 123), (123, .ireturn, 1, 124), (124, .aload_n 0, 1, 125), (125, .getfield 35, 3, 128), (128, .bipush 10, 2, 130), (130, .iload_n 1, 1, 131), (131, .imul, 1, 132), (132, .iload_n 2, 1, 133), (133, .iadd, 1, 134), (134, .aload_n 0, 1, 135), (135, .getfield 35, 3, 138), (138, .bipush 10, 2, 140), (140, .iload_n 1, 1, 141), (141, .imul, 1, 142), (142, .iload_n 2, 1, 143), (143, .iadd, 1, 144), (144, .iaload, 1, 145), (145, .iconst 1, 1, 146), (146, .iload_n 3, 1, 147), (147, .ishl, 1, 148), (148, .ior, 1, 149), (149, .iastore, 1, 150), (150, .iconst 1, 1, 151), (151, .ireturn, 1, 152)]
theorem dt_Md_edge_1 : ev_dall m_Md_edge tb_Md_edge_1 := by decide +kernel
def tb_Md_reached_0 : ev_tab := [(0, .aload_n 0, 1, 1), (1, .getfield 35, 3, 4), (4, .bipush 10, 2, 6), (6, .iload_n 1, 1, 7), (7, .imul, 1, 8), (8, .iload_n 2, 1, 9), (9, .iadd, 1, 10), (10, .iaload, 1, 11), (11, .istore_n 3, 1, 12), (12, .iconst 0, 1, 13), (13, .istore 4, 2, 15), (15, .iload 4, 2, 17), (17, .bipush 10, 2, 19), (19, .if_icmp .ge 54, 3, 22), (22, .iconst 0, 1, 23), (23, .istore 5, 2, 25), (25, .iload 5, 2, 27), (27, .bipush 10, 2, 29), (29, .if_icmp .ge 38, 3, 32), (32, .iload_n 3, 1, 33), (33, .iload 5, 2, 35), (35, .ishr, 1, 36), (36, .iconst 1, 1, 37), (37, .iand, 1, 38), (38, .iconst 1, 1, 39), (39, .if_icmp .ne 20, 3, 42), (42, .iload_n 3, 1, 43), (43, .aload_n 0, 1, 44), (44, .getfield 35, 3, 47), (47, .bipush 10, 2, 49), (49, .iload_n 1, 1, 50), (50, .imul, 1, 51), (51, .iload 5, 2, 53), (53, .iadd, 1, 54), (54, .iaload, 1, 55), (55, .ior, 1, 56), (56, .goto 4, 3, 59), (59, .iload_n 3, 1, 60), (60, .istore_n 3, 1, 61), (61, .iinc 5 1, 3, 64), (64, .goto (-39), 3, 67), (67, .iinc 4 1, 3, 70), (70, .goto (-55), 3, 73), (73, .iload_n 3, 1, 74), (74, .ireturn, 1, 75)]
theorem dt_Md_reached_0 : ev_dall m_Md_reached tb_Md_reached_0 := by decide +kernel
def tb_Md_term_0 : ev_tab := [(0, .aload_n 0, 1, 1), (1, .iload_n 1, 1, 2), (2, .bipush 6, 2, 4), (4, .if_icmp .lt 31, 3, 7), (7, .iload_n 1, 1, 8), (8, .bipush 9, 2, 10), (10, .if_icmp .gt 25, 3, 13), (13, .aload_n 0, 1, 14), (14, .iload_n 2, 1, 15), (15, .invokevirtual 116, 3, 18), (18, .ifCond .eq 17, 3, 21), (21, .iload_n 1, 1, 22), (22, .bipush 9, 2, 24), (24, .if_icmp .ge 15, 3, 27), (27, .aload_n 0, 1, 28), (28, .iload_n 3, 1, 29), (29, .invokevirtual 116, 3, 32), (32, .ifCond .ne 7, 3, 35), (35, .iconst 1, 1, 36), (36, .goto 17, 3, 39), (39, .aload_n 0, 1, 40), (40, .getfield 102, 3, 43), (43, .bipush 24, 2, 45), (45, .if_icmp .ne 7, 3, 48), (48, .iconst 2, 1, 49), (49, .goto 4, 3, 52), (52, .iconst 0, 1, 53), (53, .putfield 95, 3, 56), (56, .aload_n 0, 1, 57), (57, .getfield 95, 3, 60), (60, .ifCond .le 5, 3, 63), (63, .iconst 0, 1, 64), (64, .ireturn, 1, 65), (65, .iconst 1, 1, 66), (66, .aload_n 0, 1, 67), (67, .getfield 29, 3, 70), (70, .iload_n 2, 1, 71), (71, .iaload, 1, 72), (72, .iadd, 1, 73), (73, .iload_n 1, 1, 74), (74, .bipush 9, 2, 76), (76, .if_icmp .ge 22, 3, 79), (79, .aload_n 0, 1, 80), (80, .getfield 29, 3, 83), (83, .iload_n 1, 1, 84), (84, .bipush 9, 2, 86), (86, .if_icmp .ge 7, 3, 89), (89, .iload_n 3, 1, 90), (90, .goto 4, 3, 93), (93, .iload_n 2, 1, 94), (94, .iaload, 1, 95), (95, .goto 4, 3, 98), (98, .iconst 0, 1, 99), (99, .iadd, 1, 100), (100, .istore 4, 2, 102), (102, .aload_n 0, 1, 103), (103, .iload 4, 2, 105), (105, .bipush 40, 2, 107), (107, .if_icmp .le 7, 3, 110), (110, .iconst 2, 1, 111)]
theorem dt_Md_term_0 : ev_dall m_Md_term tb_Md_term_0 := by decide +kernel
def tb_Md_term_1 : ev_tab := [(111, .goto 4, 3, 114), (114, .iconst 0, 1, 115), (115, .putfield 95, 3, 118), (118, .aload_n 0, 1, 119), (119, .getfield 95, 3, 122), (122, .ifCond .le 5, 3, 125), (125, .iconst 0, 1, 126), (126, .ireturn, 1, 127), (127, .aload_n 0, 1, 128), (128, .getfield 17, 3, 131), (131, .aload_n 0, 1, 132), (132, .getfield 102, 3, 135), (135, .iload_n 1, 1, 136), (136, .iastore, 1, 137), (137, .aload_n 0, 1, 138), (138, .getfield 23, 3, 141), (141, .aload_n 0, 1, 142), (142, .getfield 102, 3, 145), (145, .iload_n 2, 1, 146), (146, .iastore, 1, 147), (147, .aload_n 0, 1, 148), (148, .getfield 26, 3, 151), (151, .aload_n 0, 1, 152), (152, .getfield 102, 3, 155), (155, .iload_n 1, 1, 156), (156, .bipush 9, 2, 158), (158, .if_icmp .ge 7, 3, 161), (161, .iload_n 3, 1, 162), (162, .goto 4, 3, 165), (165, .iload_n 2, 1, 166), (166, .iastore, 1, 167), (167, .aload_n 0, 1, 168), (168, .getfield 29, 3, 171), (171, .aload_n 0, 1, 172), (172, .getfield 102, 3, 175), (175, .iload 4, 2, 177), (177, .iastore, 1, 178), (178, .aload_n 0, 1, 179), (179, .dup, 1, 180), (180, .getfield 102, 3, 183), (183, .iconst 1, 1, 184), (184, .iadd, 1, 185), (185, .putfield 102, 3, 188), (188, .aload_n 0, 1, 189), (189, .getfield 102, 3, 192), (192, .iconst 1, 1, 193), (193, .isub, 1, 194), (194, .ireturn, 1, 195)]
theorem dt_Md_term_1 : ev_dall m_Md_term tb_Md_term_1 := by decide +kernel
def tb_Md_compare_0 : ev_tab := [(0, .aload_n 0, 1, 1), (1, .aload_n 0, 1, 2), (2, .iload_n 1, 1, 3), (3, .invokevirtual 116, 3, 6), (6, .ifCond .eq 23, 3, 9), (9, .aload_n 0, 1, 10), (10, .iload_n 2, 1, 11), (11, .invokevirtual 109, 3, 14), (14, .ifCond .eq 15, 3, 17), (17, .aload_n 0, 1, 18), (18, .iload_n 3, 1, 19), (19, .invokevirtual 109, 3, 22), (22, .ifCond .eq 7, 3, 25), (25, .iconst 0, 1, 26), (26, .goto 4, 3, 29), (29, .iconst 1, 1, 30), (30, .putfield 95, 3, 33), (33, .aload_n 0, 1, 34), (34, .getfield 95, 3, 37), (37, .ifCond .le 7, 3, 40), (40, .iconst 0, 1, 41), (41, .goto 10, 3, 44), (44, .aload_n 0, 1, 45), (45, .iload_n 1, 1, 46), (46, .iload_n 2, 1, 47), (47, .iload_n 3, 1, 48), (48, .invokevirtual 152, 3, 51), (51, .ireturn, 1, 52)]
theorem dt_Md_compare_0 : ev_dall m_Md_compare tb_Md_compare_0 := by decide +kernel
def tb_Md_say_0 : ev_tab := [(0, .iconst 0, 1, 1), (1, .istore 4, 2, 3), (3, .iload 4, 2, 5), (5, .iload_n 1, 1, 6), (6, .if_icmp .gt 106, 3, 9), (9, .aload_n 0, 1, 10), (10, .getfield 17, 3, 13), (13, .iload 4, 2, 15), (15, .iaload, 1, 16), (16, .bipush 6, 2, 18), (18, .if_icmp .ge 51, 3, 21), (21, .aload_n 0, 1, 22), (22, .getfield 38, 3, 25), (25, .iload 4, 2, 27), (27, .aload_n 0, 1, 28), (28, .iload 4, 2, 30), (30, .aload_n 0, 1, 31), (31, .getfield 13, 3, 34), (34, .iconst 4, 1, 35), (35, .iload_n 2, 1, 36), (36, .imul, 1, 37), (37, .aload_n 0, 1, 38), (38, .getfield 20, 3, 41), (41, .iload 4, 2, 43), (43, .iaload, 1, 44), (44, .iadd, 1, 45), (45, .iaload, 1, 46), (46, .aload_n 0, 1, 47), (47, .getfield 13, 3, 50), (50, .iconst 4, 1, 51), (51, .iload_n 3, 1, 52), (52, .imul, 1, 53), (53, .aload_n 0, 1, 54), (54, .getfield 20, 3, 57), (57, .iload 4, 2, 59), (59, .iaload, 1, 60), (60, .iadd, 1, 61), (61, .iaload, 1, 62), (62, .invokevirtual 146, 3, 65), (65, .iastore, 1, 66), (66, .goto 40, 3, 69), (69, .aload_n 0, 1, 70), (70, .getfield 38, 3, 73), (73, .iload 4, 2, 75), (75, .aload_n 0, 1, 76), (76, .iload 4, 2, 78), (78, .aload_n 0, 1, 79), (79, .getfield 38, 3, 82), (82, .aload_n 0, 1, 83), (83, .getfield 23, 3, 86), (86, .iload 4, 2, 88), (88, .iaload, 1, 89), (89, .iaload, 1, 90), (90, .aload_n 0, 1, 91), (91, .getfield 38, 3, 94), (94, .aload_n 0, 1, 95), (95, .getfield 26, 3, 98), (98, .iload 4, 2, 100), (100, .iaload, 1, 101), (101, .iaload, 1, 102)]
theorem dt_Md_say_0 : ev_dall m_Md_say tb_Md_say_0 := by decide +kernel
def tb_Md_say_1 : ev_tab := [(102, .invokevirtual 149, 3, 105), (105, .iastore, 1, 106), (106, .iinc 4 1, 3, 109), (109, .goto (-106), 3, 112), (112, .aload_n 0, 1, 113), (113, .getfield 38, 3, 116), (116, .iload_n 1, 1, 117), (117, .iaload, 1, 118), (118, .ireturn, 1, 119)]
theorem dt_Md_say_1 : ev_dall m_Md_say tb_Md_say_1 := by decide +kernel
def tb_Md_ordered_0 : ev_tab := [(0, .iload_n 2, 1, 1), (1, .iload_n 3, 1, 2), (2, .if_icmp .ne 5, 3, 5), (5, .iconst 3, 1, 6), (6, .ireturn, 1, 7), (7, .aload_n 0, 1, 8), (8, .getfield 17, 3, 11), (11, .iload_n 1, 1, 12), (12, .iaload, 1, 13), (13, .tableswitch 79 0 5 #[39, 47, 79, 79, 55, 71], 39, 52), (52, .iload_n 2, 1, 53), (53, .i2l, 1, 54), (54, .iload_n 3, 1, 55), (55, .i2l, 1, 56), (56, .invokestatic 128, 3, 59), (59, .ireturn, 1, 60), (60, .iload_n 3, 1, 61), (61, .i2l, 1, 62), (62, .iload_n 2, 1, 63), (63, .i2l, 1, 64), (64, .invokestatic 128, 3, 67), (67, .ireturn, 1, 68), (68, .aload_n 0, 1, 69), (69, .iload_n 1, 1, 70), (70, .iload_n 2, 1, 71), (71, .invokevirtual 132, 3, 74), (74, .aload_n 0, 1, 75), (75, .iload_n 1, 1, 76), (76, .iload_n 3, 1, 77), (77, .invokevirtual 132, 3, 80), (80, .invokestatic 128, 3, 83), (83, .ireturn, 1, 84), (84, .aload_n 0, 1, 85), (85, .iload_n 1, 1, 86), (86, .iload_n 2, 1, 87), (87, .iload_n 3, 1, 88), (88, .invokevirtual 136, 3, 91), (91, .ireturn, 1, 92), (92, .aload_n 0, 1, 93), (93, .iload_n 1, 1, 94), (94, .iload_n 2, 1, 95), (95, .invokevirtual 140, 3, 98), (98, .aload_n 0, 1, 99), (99, .iload_n 1, 1, 100), (100, .iload_n 3, 1, 101), (101, .invokevirtual 140, 3, 104), (104, .invokestatic 128, 3, 107), (107, .ireturn, 1, 108)]
theorem dt_Md_ordered_0 : ev_dall m_Md_ordered tb_Md_ordered_0 := by decide +kernel
def tb_Md_byLess_0 : ev_tab := [(0, .lload_n 0, 1, 1), (1, .lload_n 2, 1, 2), (2, .lcmp, 1, 3), (3, .ifCond .ge 7, 3, 6), (6, .iconst 1, 1, 7), (7, .goto 14, 3, 10), (10, .lload_n 0, 1, 11), (11, .lload_n 2, 1, 12), (12, .lcmp, 1, 13), (13, .ifCond .le 7, 3, 16), (16, .iconst 2, 1, 17), (17, .goto 4, 3, 20), (20, .iconst 0, 1, 21), (21, .ireturn, 1, 22)]
theorem dt_Md_byLess_0 : ev_dall m_Md_byLess tb_Md_byLess_0 := by decide +kernel
def tb_Md_depth_0 : ev_tab := [(0, .iload_n 2, 1, 1), (1, .invokestatic 119, 3, 4), (4, .ifCond .eq 28, 3, 7), (7, .aload_n 0, 1, 8), (8, .getfield 32, 3, 11), (11, .bipush 10, 2, 13), (13, .iload_n 1, 1, 14), (14, .imul, 1, 15), (15, .iload_n 2, 1, 16), (16, .invokestatic 119, 3, 19), (19, .ifCond .eq 7, 3, 22), (22, .iload_n 2, 1, 23), (23, .goto 4, 3, 26), (26, .iconst 0, 1, 27), (27, .iadd, 1, 28), (28, .iaload, 1, 29), (29, .goto 4, 3, 32), (32, .iconst (-1), 1, 33), (33, .istore_n 3, 1, 34), (34, .iload_n 3, 1, 35), (35, .ifCond .ge 9, 3, 38), (38, .ldc2_w 126, 3, 41), (41, .goto 5, 3, 44), (44, .iload_n 3, 1, 45), (45, .i2l, 1, 46), (46, .lreturn, 1, 47)]
theorem dt_Md_depth_0 : ev_dall m_Md_depth tb_Md_depth_0 := by decide +kernel
def tb_Md_graph_0 : ev_tab := [(0, .iload_n 2, 1, 1), (1, .invokestatic 119, 3, 4), (4, .ifCond .eq 10, 3, 7), (7, .iload_n 3, 1, 8), (8, .invokestatic 119, 3, 11), (11, .ifCond .ne 5, 3, 14), (14, .iconst 0, 1, 15), (15, .ireturn, 1, 16), (16, .aload_n 0, 1, 17), (17, .iload_n 1, 1, 18), (18, .iload_n 2, 1, 19), (19, .invokevirtual 122, 3, 22), (22, .iload_n 3, 1, 23), (23, .ishr, 1, 24), (24, .iconst 1, 1, 25), (25, .iand, 1, 26), (26, .iconst 1, 1, 27), (27, .if_icmp .ne 7, 3, 30), (30, .iconst 1, 1, 31), (31, .goto 22, 3, 34), (34, .aload_n 0, 1, 35), (35, .iload_n 1, 1, 36), (36, .iload_n 3, 1, 37), (37, .invokevirtual 122, 3, 40), (40, .iload_n 2, 1, 41), (41, .ishr, 1, 42), (42, .iconst 1, 1, 43), (43, .iand, 1, 44), (44, .iconst 1, 1, 45), (45, .if_icmp .ne 7, 3, 48), (48, .iconst 2, 1, 49), (49, .goto 4, 3, 52), (52, .iconst 0, 1, 53), (53, .ireturn, 1, 54)]
theorem dt_Md_graph_0 : ev_dall m_Md_graph tb_Md_graph_0 := by decide +kernel
def tb_Md_distance_0 : ev_tab := [(0, .aload_n 0, 1, 1), (1, .getfield 23, 3, 4), (4, .iload_n 1, 1, 5), (5, .iaload, 1, 6), (6, .i2l, 1, 7), (7, .lstore_n 3, 1, 8), (8, .aload_n 0, 1, 9), (9, .getfield 17, 3, 12), (12, .iload_n 1, 1, 13), (13, .iaload, 1, 14), (14, .iconst 2, 1, 15), (15, .if_icmp .ne 13, 3, 18), (18, .aload_n 0, 1, 19), (19, .getfield 23, 3, 22), (22, .iload_n 1, 1, 23), (23, .iaload, 1, 24), (24, .i2l, 1, 25), (25, .goto 10, 3, 28), (28, .aload_n 0, 1, 29), (29, .getfield 26, 3, 32), (32, .iload_n 1, 1, 33), (33, .iaload, 1, 34), (34, .i2l, 1, 35), (35, .lstore 5, 2, 37), (37, .iload_n 2, 1, 38), (38, .i2l, 1, 39), (39, .lload_n 3, 1, 40), (40, .lcmp, 1, 41), (41, .ifCond .ge 10, 3, 44), (44, .lload_n 3, 1, 45), (45, .iload_n 2, 1, 46), (46, .i2l, 1, 47), (47, .lsub, 1, 48), (48, .goto 20, 3, 51), (51, .iload_n 2, 1, 52), (52, .i2l, 1, 53), (53, .lload 5, 2, 55), (55, .lcmp, 1, 56), (56, .ifCond .le 11, 3, 59), (59, .iload_n 2, 1, 60), (60, .i2l, 1, 61), (61, .lload 5, 2, 63), (63, .lsub, 1, 64), (64, .goto 4, 3, 67), (67, .lconst 0, 1, 68), (68, .lreturn, 1, 69)]
theorem dt_Md_distance_0 : ev_dall m_Md_distance tb_Md_distance_0 := by decide +kernel
def tb_Md_joined_0 : ev_tab := [(0, .aload_n 0, 1, 1), (1, .getfield 17, 3, 4), (4, .iload_n 1, 1, 5), (5, .iaload, 1, 6), (6, .istore 4, 2, 8), (8, .iload 4, 2, 10), (10, .bipush 9, 2, 12), (12, .if_icmp .ne 23, 3, 15), (15, .iload_n 2, 1, 16), (16, .iconst 1, 1, 17), (17, .if_icmp .ne 7, 3, 20), (20, .iconst 2, 1, 21), (21, .goto 13, 3, 24), (24, .iload_n 2, 1, 25), (25, .iconst 2, 1, 26), (26, .if_icmp .ne 7, 3, 29), (29, .iconst 1, 1, 30), (30, .goto 4, 3, 33), (33, .iload_n 2, 1, 34), (34, .ireturn, 1, 35), (35, .iload 4, 2, 37), (37, .bipush 6, 2, 39), (39, .if_icmp .ne 11, 3, 42), (42, .iload_n 2, 1, 43), (43, .iload_n 3, 1, 44), (44, .invokestatic 143, 3, 47), (47, .goto 33, 3, 50), (50, .iload 4, 2, 52), (52, .bipush 7, 2, 54), (54, .if_icmp .ne 16, 3, 57), (57, .iload_n 2, 1, 58), (58, .iconst 3, 1, 59), (59, .if_icmp .ne 7, 3, 62), (62, .iload_n 3, 1, 63), (63, .goto 17, 3, 66), (66, .iload_n 2, 1, 67), (67, .goto 13, 3, 70), (70, .iload_n 2, 1, 71), (71, .iload_n 3, 1, 72), (72, .if_icmp .ne 7, 3, 75), (75, .iload_n 2, 1, 76), (76, .goto 4, 3, 79), (79, .iconst 0, 1, 80), (80, .ireturn, 1, 81)]
theorem dt_Md_joined_0 : ev_dall m_Md_joined tb_Md_joined_0 := by decide +kernel
def tb_Md_pareto_0 : ev_tab := [(0, .iload_n 0, 1, 1), (1, .iconst 3, 1, 2), (2, .if_icmp .eq 8, 3, 5), (5, .iload_n 1, 1, 6), (6, .iconst 3, 1, 7), (7, .if_icmp .ne 14, 3, 10), (10, .iload_n 0, 1, 11), (11, .iconst 3, 1, 12), (12, .if_icmp .ne 7, 3, 15), (15, .iload_n 1, 1, 16), (16, .goto 4, 3, 19), (19, .iload_n 0, 1, 20), (20, .ireturn, 1, 21), (21, .iload_n 0, 1, 22), (22, .iload_n 1, 1, 23), (23, .if_icmp .ne 7, 3, 26), (26, .iload_n 0, 1, 27), (27, .goto 4, 3, 30), (30, .iconst 0, 1, 31), (31, .ireturn, 1, 32)]
theorem dt_Md_pareto_0 : ev_dall m_Md_pareto tb_Md_pareto_0 := by decide +kernel
def tb_Md_condition_0 : ev_tab := [(0, .aload_n 0, 1, 1), (1, .iload_n 1, 1, 2), (2, .invokestatic 113, 3, 5), (5, .ifCond .eq 12, 3, 8), (8, .iload_n 2, 1, 9), (9, .ifCond .lt 8, 3, 12), (12, .iload_n 2, 1, 13), (13, .iconst 5, 1, 14), (14, .if_icmp .le 7, 3, 17), (17, .iconst 1, 1, 18), (18, .goto 18, 3, 21), (21, .aload_n 0, 1, 22), (22, .getfield 41, 3, 25), (25, .iconst 4, 1, 26), (26, .iaload, 1, 27), (27, .iconst 4, 1, 28), (28, .if_icmp .ne 7, 3, 31), (31, .iconst 2, 1, 32), (32, .goto 4, 3, 35), (35, .iconst 0, 1, 36), (36, .putfield 95, 3, 39), (39, .aload_n 0, 1, 40), (40, .getfield 95, 3, 43), (43, .ifCond .le 5, 3, 46), (46, .iconst 0, 1, 47), (47, .ireturn, 1, 48), (48, .bipush 16, 2, 50), (50, .aload_n 0, 1, 51), (51, .getfield 41, 3, 54), (54, .iconst 4, 1, 55), (55, .iaload, 1, 56), (56, .iadd, 1, 57), (57, .istore 4, 2, 59), (59, .aload_n 0, 1, 60), (60, .getfield 44, 3, 63), (63, .iload 4, 2, 65), (65, .iload_n 1, 1, 66), (66, .iastore, 1, 67), (67, .aload_n 0, 1, 68), (68, .getfield 47, 3, 71), (71, .iload 4, 2, 73), (73, .iload_n 2, 1, 74), (74, .iastore, 1, 75), (75, .aload_n 0, 1, 76), (76, .getfield 50, 3, 79), (79, .iload 4, 2, 81), (81, .iload_n 3, 1, 82), (82, .iastore, 1, 83), (83, .aload_n 0, 1, 84), (84, .getfield 41, 3, 87), (87, .iconst 4, 1, 88), (88, .dup2, 1, 89), (89, .iaload, 1, 90), (90, .iconst 1, 1, 91), (91, .iadd, 1, 92), (92, .iastore, 1, 93), (93, .aload_n 0, 1, 94), (94, .getfield 41, 3, 97), (97, .iconst 4, 1, 98), (98, .iaload, 1, 99)]
theorem dt_Md_condition_0 : ev_dall m_Md_condition tb_Md_condition_0 := by decide +kernel
def tb_Md_condition_1 : ev_tab := [(99, .ireturn, 1, 100)]
theorem dt_Md_condition_1 : ev_dall m_Md_condition tb_Md_condition_1 := by decide +kernel
def tb_Md_free_0 : ev_tab := [(0, .aload_n 0, 1, 1), (1, .iconst 0, 1, 2), (2, .putfield 95, 3, 5), (5, .aload_n 0, 1, 6), (6, .getfield 41, 3, 9), (9, .iconst 4, 1, 10), (10, .iconst 0, 1, 11), (11, .iastore, 1, 12), (12, .return_, 1, 13)]
theorem dt_Md_free_0 : ev_dall m_Md_free tb_Md_free_0 := by decide +kernel
def tb_Md_best_0 : ev_tab := [(0, .aload_n 0, 1, 1), (1, .aload_n 0, 1, 2), (2, .iload_n 1, 1, 3), (3, .invokevirtual 116, 3, 6), (6, .ifCond .eq 7, 3, 9), (9, .iconst 0, 1, 10), (10, .goto 4, 3, 13), (13, .iconst 1, 1, 14), (14, .putfield 95, 3, 17), (17, .aload_n 0, 1, 18), (18, .getfield 95, 3, 21), (21, .ifCond .le 5, 3, 24), (24, .iconst 0, 1, 25), (25, .ireturn, 1, 26), (26, .aload_n 0, 1, 27), (27, .iload_n 1, 1, 28), (28, .iconst 4, 1, 29), (29, .iconst 4, 1, 30), (30, .invokevirtual 166, 3, 33), (33, .istore_n 2, 1, 34), (34, .aload_n 0, 1, 35), (35, .invokevirtual 169, 3, 38), (38, .ireturn, 1, 39)]
theorem dt_Md_best_0 : ev_dall m_Md_best tb_Md_best_0 := by decide +kernel
def tb_Md_mark_0 : ev_tab := [(0, .iconst 0, 1, 1), (1, .istore 4, 2, 3), (3, .iconst 0, 1, 4), (4, .istore 5, 2, 6), (6, .iload 5, 2, 8), (8, .aload_n 0, 1, 9), (9, .getfield 99, 3, 12), (12, .if_icmp .ge 166, 3, 15), (15, .aload_n 0, 1, 16), (16, .getfield 62, 3, 19), (19, .iload 5, 2, 21), (21, .aload_n 0, 1, 22), (22, .iload_n 2, 1, 23), (23, .iload 5, 2, 25), (25, .invokevirtual 159, 3, 28), (28, .bastore, 1, 29), (29, .iconst 0, 1, 30), (30, .istore 6, 2, 32), (32, .iload 6, 2, 34), (34, .aload_n 0, 1, 35), (35, .getfield 99, 3, 38), (38, .if_icmp .ge 114, 3, 41), (41, .aload_n 0, 1, 42), (42, .getfield 62, 3, 45), (45, .iload 5, 2, 47), (47, .baload, 1, 48), (48, .ifCond .eq 104, 3, 51), (51, .aload_n 0, 1, 52), (52, .iload_n 2, 1, 53), (53, .iload 6, 2, 55), (55, .invokevirtual 159, 3, 58), (58, .ifCond .eq 55, 3, 61), (61, .iload_n 3, 1, 62), (62, .iconst 3, 1, 63), (63, .if_icmp .gt 46, 3, 66), (66, .aload_n 0, 1, 67), (67, .getfield 13, 3, 70), (70, .iconst 4, 1, 71), (71, .iload 6, 2, 73), (73, .imul, 1, 74), (74, .iload_n 3, 1, 75), (75, .iconst 3, 1, 76), (76, .if_icmp .le 7, 3, 79), (79, .iconst 0, 1, 80), (80, .goto 4, 3, 83), (83, .iload_n 3, 1, 84), (84, .iadd, 1, 85), (85, .iaload, 1, 86), (86, .aload_n 0, 1, 87), (87, .getfield 13, 3, 90), (90, .iconst 4, 1, 91), (91, .iload 5, 2, 93), (93, .imul, 1, 94), (94, .iload_n 3, 1, 95), (95, .iconst 3, 1, 96), (96, .if_icmp .le 7, 3, 99), (99, .iconst 0, 1, 100), (100, .goto 4, 3, 103), (103, .iload_n 3, 1, 104), (104, .iadd, 1, 105)]
theorem dt_Md_mark_0 : ev_dall m_Md_mark tb_Md_mark_0 := by decide +kernel
def tb_Md_mark_1 : ev_tab := [(105, .iaload, 1, 106), (106, .if_icmp .ne 7, 3, 109), (109, .iconst 1, 1, 110), (110, .goto 4, 3, 113), (113, .iconst 0, 1, 114), (114, .istore 7, 2, 116), (116, .aload_n 0, 1, 117), (117, .getfield 62, 3, 120), (120, .iload 5, 2, 122), (122, .iload 7, 2, 124), (124, .ifCond .eq 16, 3, 127), (127, .aload_n 0, 1, 128), (128, .iload_n 1, 1, 129), (129, .iload 6, 2, 131), (131, .iload 5, 2, 133), (133, .invokevirtual 152, 3, 136), (136, .iconst 1, 1, 137), (137, .if_icmp .eq 7, 3, 140), (140, .iconst 1, 1, 141), (141, .goto 4, 3, 144), (144, .iconst 0, 1, 145), (145, .bastore, 1, 146), (146, .iinc 6 1, 3, 149), (149, .goto (-117), 3, 152), (152, .iload 4, 2, 154), (154, .aload_n 0, 1, 155), (155, .getfield 62, 3, 158), (158, .iload 5, 2, 160), (160, .baload, 1, 161), (161, .ifCond .eq 7, 3, 164), (164, .iconst 1, 1, 165), (165, .goto 4, 3, 168), (168, .iconst 0, 1, 169), (169, .iadd, 1, 170), (170, .istore 4, 2, 172), (172, .iinc 5 1, 3, 175), (175, .goto (-169), 3, 178), (178, .iload 4, 2, 180), (180, .ireturn, 1, 181)]
theorem dt_Md_mark_1 : ev_dall m_Md_mark tb_Md_mark_1 := by decide +kernel
def tb_Md_passes_0 : ev_tab := [(0, .aload_n 0, 1, 1), (1, .getfield 7, 3, 4), (4, .iload_n 2, 1, 5), (5, .baload, 1, 6), (6, .istore_n 3, 1, 7), (7, .iconst 4, 1, 8), (8, .iload_n 1, 1, 9), (9, .imul, 1, 10), (10, .istore 4, 2, 12), (12, .iload 4, 2, 14), (14, .iconst 4, 1, 15), (15, .iload_n 1, 1, 16), (16, .imul, 1, 17), (17, .aload_n 0, 1, 18), (18, .getfield 41, 3, 21), (21, .iload_n 1, 1, 22), (22, .iaload, 1, 23), (23, .iadd, 1, 24), (24, .if_icmp .ge 55, 3, 27), (27, .iload_n 3, 1, 28), (28, .ifCond .eq 43, 3, 31), (31, .aload_n 0, 1, 32), (32, .getfield 47, 3, 35), (35, .iload 4, 2, 37), (37, .iaload, 1, 38), (38, .aload_n 0, 1, 39), (39, .getfield 13, 3, 42), (42, .iconst 4, 1, 43), (43, .iload_n 2, 1, 44), (44, .imul, 1, 45), (45, .aload_n 0, 1, 46), (46, .getfield 44, 3, 49), (49, .iload 4, 2, 51), (51, .iaload, 1, 52), (52, .iadd, 1, 53), (53, .iaload, 1, 54), (54, .aload_n 0, 1, 55), (55, .getfield 50, 3, 58), (58, .iload 4, 2, 60), (60, .iaload, 1, 61), (61, .invokestatic 155, 3, 64), (64, .ifCond .eq 7, 3, 67), (67, .iconst 1, 1, 68), (68, .goto 4, 3, 71), (71, .iconst 0, 1, 72), (72, .istore_n 3, 1, 73), (73, .iinc 4 1, 3, 76), (76, .goto (-64), 3, 79), (79, .iload_n 3, 1, 80), (80, .ireturn, 1, 81)]
theorem dt_Md_passes_0 : ev_dall m_Md_passes tb_Md_passes_0 := by decide +kernel
def tb_Md_holds_0 : ev_tab := [(0, .iload_n 0, 1, 1), (1, .ifCond .ne 16, 3, 4), (4, .iload_n 1, 1, 5), (5, .iload_n 2, 1, 6), (6, .if_icmp .ne 7, 3, 9), (9, .iconst 1, 1, 10), (10, .goto 89, 3, 13), (13, .iconst 0, 1, 14), (14, .goto 85, 3, 17), (17, .iload_n 0, 1, 18), (18, .iconst 1, 1, 19), (19, .if_icmp .ne 16, 3, 22), (22, .iload_n 1, 1, 23), (23, .iload_n 2, 1, 24), (24, .if_icmp .eq 7, 3, 27), (27, .iconst 1, 1, 28), (28, .goto 71, 3, 31), (31, .iconst 0, 1, 32), (32, .goto 67, 3, 35), (35, .iload_n 0, 1, 36), (36, .iconst 2, 1, 37), (37, .if_icmp .ne 16, 3, 40), (40, .iload_n 1, 1, 41), (41, .iload_n 2, 1, 42), (42, .if_icmp .ge 7, 3, 45), (45, .iconst 1, 1, 46), (46, .goto 53, 3, 49), (49, .iconst 0, 1, 50), (50, .goto 49, 3, 53), (53, .iload_n 0, 1, 54), (54, .iconst 3, 1, 55), (55, .if_icmp .ne 16, 3, 58), (58, .iload_n 1, 1, 59), (59, .iload_n 2, 1, 60), (60, .if_icmp .gt 7, 3, 63), (63, .iconst 1, 1, 64), (64, .goto 35, 3, 67), (67, .iconst 0, 1, 68), (68, .goto 31, 3, 71), (71, .iload_n 0, 1, 72), (72, .iconst 4, 1, 73), (73, .if_icmp .ne 16, 3, 76), (76, .iload_n 1, 1, 77), (77, .iload_n 2, 1, 78), (78, .if_icmp .le 7, 3, 81), (81, .iconst 1, 1, 82), (82, .goto 17, 3, 85), (85, .iconst 0, 1, 86), (86, .goto 13, 3, 89), (89, .iload_n 1, 1, 90), (90, .iload_n 2, 1, 91), (91, .if_icmp .lt 7, 3, 94), (94, .iconst 1, 1, 95), (95, .goto 4, 3, 98), (98, .iconst 0, 1, 99), (99, .ireturn, 1, 100)]
theorem dt_Md_holds_0 : ev_dall m_Md_holds tb_Md_holds_0 := by decide +kernel
def tb_Md_answerBest_0 : ev_tab := [(0, .aload_n 0, 1, 1), (1, .iconst 0, 1, 2), (2, .putfield 163, 3, 5), (5, .iconst 0, 1, 6), (6, .istore_n 1, 1, 7), (7, .iload_n 1, 1, 8), (8, .aload_n 0, 1, 9), (9, .getfield 99, 3, 12), (12, .if_icmp .ge 38, 3, 15), (15, .aload_n 0, 1, 16), (16, .getfield 62, 3, 19), (19, .iload_n 1, 1, 20), (20, .baload, 1, 21), (21, .ifCond .eq 23, 3, 24), (24, .aload_n 0, 1, 25), (25, .getfield 68, 3, 28), (28, .aload_n 0, 1, 29), (29, .getfield 163, 3, 32), (32, .iload_n 1, 1, 33), (33, .iastore, 1, 34), (34, .aload_n 0, 1, 35), (35, .dup, 1, 36), (36, .getfield 163, 3, 39), (39, .iconst 1, 1, 40), (40, .iadd, 1, 41), (41, .putfield 163, 3, 44), (44, .iinc 1 1, 3, 47), (47, .goto (-40), 3, 50), (50, .aload_n 0, 1, 51), (51, .getfield 163, 3, 54), (54, .ireturn, 1, 55)]
theorem dt_Md_answerBest_0 : ev_dall m_Md_answerBest tb_Md_answerBest_0 := by decide +kernel
def tb_Md_grouped_0 : ev_tab := [(0, .aload_n 0, 1, 1), (1, .aload_n 0, 1, 2), (2, .iload_n 1, 1, 3), (3, .invokevirtual 116, 3, 6), (6, .ifCond .eq 14, 3, 9), (9, .iload_n 2, 1, 10), (10, .invokestatic 113, 3, 13), (13, .ifCond .eq 7, 3, 16), (16, .iconst 0, 1, 17), (17, .goto 4, 3, 20), (20, .iconst 1, 1, 21), (21, .putfield 95, 3, 24), (24, .aload_n 0, 1, 25), (25, .getfield 95, 3, 28), (28, .ifCond .le 5, 3, 31), (31, .iconst 0, 1, 32), (32, .ireturn, 1, 33), (33, .aload_n 0, 1, 34), (34, .iload_n 1, 1, 35), (35, .iconst 4, 1, 36), (36, .iload_n 2, 1, 37), (37, .invokevirtual 166, 3, 40), (40, .istore_n 3, 1, 41), (41, .aload_n 0, 1, 42), (42, .invokevirtual 169, 3, 45), (45, .ireturn, 1, 46)]
theorem dt_Md_grouped_0 : ev_dall m_Md_grouped tb_Md_grouped_0 := by decide +kernel
def tb_Md_top_0 : ev_tab := [(0, .aload_n 0, 1, 1), (1, .aload_n 0, 1, 2), (2, .iload_n 1, 1, 3), (3, .invokevirtual 116, 3, 6), (6, .ifCond .ne 7, 3, 9), (9, .iconst 1, 1, 10), (10, .goto 12, 3, 13), (13, .iload_n 2, 1, 14), (14, .ifCond .ge 7, 3, 17), (17, .iconst 2, 1, 18), (18, .goto 4, 3, 21), (21, .iconst 0, 1, 22), (22, .putfield 95, 3, 25), (25, .aload_n 0, 1, 26), (26, .getfield 95, 3, 29), (29, .ifCond .le 5, 3, 32), (32, .iconst 0, 1, 33), (33, .ireturn, 1, 34), (34, .aload_n 0, 1, 35), (35, .iload_n 1, 1, 36), (36, .invokevirtual 172, 3, 39), (39, .aload_n 0, 1, 40), (40, .iconst 0, 1, 41), (41, .putfield 163, 3, 44), (44, .iconst 1, 1, 45), (45, .istore_n 3, 1, 46), (46, .iload_n 3, 1, 47), (47, .bipush 24, 2, 49), (49, .if_icmp .gt 67, 3, 52), (52, .iconst 0, 1, 53), (53, .istore 4, 2, 55), (55, .iload 4, 2, 57), (57, .aload_n 0, 1, 58), (58, .getfield 99, 3, 61), (61, .if_icmp .ge 49, 3, 64), (64, .aload_n 0, 1, 65), (65, .getfield 163, 3, 68), (68, .iload_n 2, 1, 69), (69, .if_icmp .ge 41, 3, 72), (72, .aload_n 0, 1, 73), (73, .getfield 65, 3, 76), (76, .iload 4, 2, 78), (78, .iaload, 1, 79), (79, .iload_n 3, 1, 80), (80, .if_icmp .ne 24, 3, 83), (83, .aload_n 0, 1, 84), (84, .getfield 68, 3, 87), (87, .aload_n 0, 1, 88), (88, .getfield 163, 3, 91), (91, .iload 4, 2, 93), (93, .iastore, 1, 94), (94, .aload_n 0, 1, 95), (95, .dup, 1, 96), (96, .getfield 163, 3, 99), (99, .iconst 1, 1, 100), (100, .iadd, 1, 101), (101, .putfield 163, 3, 104), (104, .iinc 4 1, 3, 107), (107, .goto (-52), 3, 110), (110, .iinc 3 1, 3, 113)]
theorem dt_Md_top_0 : ev_dall m_Md_top tb_Md_top_0 := by decide +kernel
def tb_Md_top_1 : ev_tab := [(113, .goto (-67), 3, 116), (116, .aload_n 0, 1, 117), (117, .getfield 163, 3, 120), (120, .ireturn, 1, 121)]
theorem dt_Md_top_1 : ev_dall m_Md_top tb_Md_top_1 := by decide +kernel
def tb_Md_weigh_0 : ev_tab := [(0, .iconst 0, 1, 1), (1, .istore_n 2, 1, 2), (2, .iload_n 2, 1, 3), (3, .aload_n 0, 1, 4), (4, .getfield 99, 3, 7), (7, .if_icmp .ge 29, 3, 10), (10, .aload_n 0, 1, 11), (11, .getfield 65, 3, 14), (14, .iload_n 2, 1, 15), (15, .aload_n 0, 1, 16), (16, .iconst 4, 1, 17), (17, .iload_n 2, 1, 18), (18, .invokevirtual 159, 3, 21), (21, .ifCond .eq 7, 3, 24), (24, .iconst 1, 1, 25), (25, .goto 4, 3, 28), (28, .iconst 0, 1, 29), (29, .iastore, 1, 30), (30, .iinc 2 1, 3, 33), (33, .goto (-31), 3, 36), (36, .iconst 1, 1, 37), (37, .istore_n 2, 1, 38), (38, .iconst 0, 1, 39), (39, .istore_n 3, 1, 40), (40, .iload_n 3, 1, 41), (41, .bipush 25, 2, 43), (43, .if_icmp .ge 119, 3, 46), (46, .iload_n 2, 1, 47), (47, .ifCond .eq 115, 3, 50), (50, .iconst 0, 1, 51), (51, .istore_n 2, 1, 52), (52, .iconst 0, 1, 53), (53, .istore 4, 2, 55), (55, .iload 4, 2, 57), (57, .aload_n 0, 1, 58), (58, .getfield 99, 3, 61), (61, .if_icmp .ge 95, 3, 64), (64, .iconst 0, 1, 65), (65, .istore 5, 2, 67), (67, .iload 5, 2, 69), (69, .aload_n 0, 1, 70), (70, .getfield 99, 3, 73), (73, .if_icmp .ge 77, 3, 76), (76, .aload_n 0, 1, 77), (77, .getfield 65, 3, 80), (80, .iload 4, 2, 82), (82, .iaload, 1, 83), (83, .ifCond .le 67, 3, 86), (86, .aload_n 0, 1, 87), (87, .getfield 65, 3, 90), (90, .iload 5, 2, 92), (92, .iaload, 1, 93), (93, .ifCond .le 51, 3, 96), (96, .aload_n 0, 1, 97), (97, .getfield 65, 3, 100), (100, .iload 5, 2, 102), (102, .iaload, 1, 103), (103, .aload_n 0, 1, 104), (104, .getfield 65, 3, 107), (107, .iload 4, 2, 109)]
theorem dt_Md_weigh_0 : ev_dall m_Md_weigh tb_Md_weigh_0 := by decide +kernel
def tb_Md_weigh_1 : ev_tab := [(109, .iaload, 1, 110), (110, .if_icmp .gt 34, 3, 113), (113, .aload_n 0, 1, 114), (114, .iload_n 1, 1, 115), (115, .iload 4, 2, 117), (117, .iload 5, 2, 119), (119, .invokevirtual 152, 3, 122), (122, .iconst 1, 1, 123), (123, .if_icmp .ne 21, 3, 126), (126, .aload_n 0, 1, 127), (127, .getfield 65, 3, 130), (130, .iload 5, 2, 132), (132, .aload_n 0, 1, 133), (133, .getfield 65, 3, 136), (136, .iload 4, 2, 138), (138, .iaload, 1, 139), (139, .iconst 1, 1, 140), (140, .iadd, 1, 141), (141, .iastore, 1, 142), (142, .iconst 1, 1, 143), (143, .istore_n 2, 1, 144), (144, .iinc 5 1, 3, 147), (147, .goto (-80), 3, 150), (150, .iinc 4 1, 3, 153), (153, .goto (-98), 3, 156), (156, .iinc 3 1, 3, 159), (159, .goto (-119), 3, 162), (162, .return_, 1, 163)]
theorem dt_Md_weigh_1 : ev_dall m_Md_weigh tb_Md_weigh_1 := by decide +kernel
def tb_Md_level_0 : ev_tab := [(0, .aload_n 0, 1, 1), (1, .aload_n 0, 1, 2), (2, .iload_n 1, 1, 3), (3, .invokevirtual 116, 3, 6), (6, .ifCond .eq 15, 3, 9), (9, .aload_n 0, 1, 10), (10, .iload_n 2, 1, 11), (11, .invokevirtual 109, 3, 14), (14, .ifCond .eq 7, 3, 17), (17, .iconst 0, 1, 18), (18, .goto 4, 3, 21), (21, .iconst 1, 1, 22), (22, .putfield 95, 3, 25), (25, .aload_n 0, 1, 26), (26, .getfield 95, 3, 29), (29, .ifCond .le 5, 3, 32), (32, .iconst 0, 1, 33), (33, .ireturn, 1, 34), (34, .aload_n 0, 1, 35), (35, .iload_n 1, 1, 36), (36, .invokevirtual 172, 3, 39), (39, .aload_n 0, 1, 40), (40, .getfield 65, 3, 43), (43, .iload_n 2, 1, 44), (44, .iaload, 1, 45), (45, .ireturn, 1, 46)]
theorem dt_Md_level_0 : ev_dall m_Md_level tb_Md_level_0 := by decide +kernel
def tb_Md_answer_0 : ev_tab := [(0, .aload_n 0, 1, 1), (1, .iconst 0, 1, 2), (2, .putfield 95, 3, 5), (5, .iload_n 1, 1, 6), (6, .iconst (-1), 1, 7), (7, .if_icmp .ne 10, 3, 10), (10, .aload_n 0, 1, 11), (11, .getfield 163, 3, 14), (14, .goto 25, 3, 17), (17, .iload_n 1, 1, 18), (18, .ifCond .lt 11, 3, 21), (21, .iload_n 1, 1, 22), (22, .aload_n 0, 1, 23), (23, .getfield 163, 3, 26), (26, .if_icmp .lt 7, 3, 29), (29, .iconst (-1), 1, 30), (30, .goto 9, 3, 33), (33, .aload_n 0, 1, 34), (34, .getfield 68, 3, 37), (37, .iload_n 1, 1, 38), (38, .iaload, 1, 39), (39, .ireturn, 1, 40)]
theorem dt_Md_answer_0 : ev_dall m_Md_answer tb_Md_answer_0 := by decide +kernel
def tb_Md_reason_0 : ev_tab := [(0, .aload_n 0, 1, 1), (1, .aload_n 0, 1, 2), (2, .iload_n 1, 1, 3), (3, .invokevirtual 116, 3, 6), (6, .ifCond .eq 23, 3, 9), (9, .aload_n 0, 1, 10), (10, .iload_n 2, 1, 11), (11, .invokevirtual 109, 3, 14), (14, .ifCond .eq 15, 3, 17), (17, .aload_n 0, 1, 18), (18, .iload_n 3, 1, 19), (19, .invokevirtual 109, 3, 22), (22, .ifCond .eq 7, 3, 25), (25, .iconst 0, 1, 26), (26, .goto 4, 3, 29), (29, .iconst 1, 1, 30), (30, .putfield 95, 3, 33), (33, .aload_n 0, 1, 34), (34, .getfield 95, 3, 37), (37, .ifCond .le 5, 3, 40), (40, .iconst 0, 1, 41), (41, .ireturn, 1, 42), (42, .iload 4, 2, 44), (44, .ifCond .lt 20, 3, 47), (47, .iload 4, 2, 49), (49, .iconst 1, 1, 50), (50, .if_icmp .gt 14, 3, 53), (53, .aload_n 0, 1, 54), (54, .iload_n 1, 1, 55), (55, .iload_n 2, 1, 56), (56, .iload_n 3, 1, 57), (57, .invokevirtual 152, 3, 60), (60, .iconst 1, 1, 61), (61, .if_icmp .eq 5, 3, 64), (64, .iconst (-1), 1, 65), (65, .ireturn, 1, 66), (66, .iload_n 1, 1, 67), (67, .istore 5, 2, 69), (69, .iload_n 2, 1, 70), (70, .istore 6, 2, 72), (72, .iload_n 3, 1, 73), (73, .istore 7, 2, 75), (75, .iconst 1, 1, 76), (76, .istore 8, 2, 78), (78, .aload_n 0, 1, 79), (79, .getfield 17, 3, 82), (82, .iload 5, 2, 84), (84, .iaload, 1, 85), (85, .iconst 5, 1, 86), (86, .if_icmp .le 117, 3, 89), (89, .aload_n 0, 1, 90), (90, .aload_n 0, 1, 91), (91, .getfield 23, 3, 94), (94, .iload 5, 2, 96), (96, .iaload, 1, 97), (97, .iload 6, 2, 99), (99, .iload 7, 2, 101), (101, .invokevirtual 152, 3, 104), (104, .istore 9, 2, 106), (106, .aload_n 0, 1, 107)]
theorem dt_Md_reason_0 : ev_dall m_Md_reason tb_Md_reason_0 := by decide +kernel
def tb_Md_reason_1 : ev_tab := [(107, .getfield 17, 3, 110), (110, .iload 5, 2, 112), (112, .iaload, 1, 113), (113, .bipush 6, 2, 115), (115, .if_icmp .ne 9, 3, 118), (118, .iload 9, 2, 120), (120, .iconst 1, 1, 121), (121, .if_icmp .ne 21, 3, 124), (124, .aload_n 0, 1, 125), (125, .getfield 17, 3, 128), (128, .iload 5, 2, 130), (130, .iaload, 1, 131), (131, .bipush 7, 2, 133), (133, .if_icmp .ne 13, 3, 136), (136, .iload 9, 2, 138), (138, .iconst 3, 1, 139), (139, .if_icmp .ne 7, 3, 142), (142, .iconst 1, 1, 143), (143, .goto 4, 3, 146), (146, .iconst 0, 1, 147), (147, .istore 10, 2, 149), (149, .aload_n 0, 1, 150), (150, .getfield 17, 3, 153), (153, .iload 5, 2, 155), (155, .iaload, 1, 156), (156, .bipush 9, 2, 158), (158, .if_icmp .ne 15, 3, 161), (161, .iload 6, 2, 163), (163, .istore 11, 2, 165), (165, .iload 7, 2, 167), (167, .istore 6, 2, 169), (169, .iload 11, 2, 171), (171, .istore 7, 2, 173), (173, .iload 10, 2, 175), (175, .ifCond .eq 13, 3, 178), (178, .aload_n 0, 1, 179), (179, .getfield 26, 3, 182), (182, .iload 5, 2, 184), (184, .iaload, 1, 185), (185, .goto 10, 3, 188), (188, .aload_n 0, 1, 189), (189, .getfield 23, 3, 192), (192, .iload 5, 2, 194), (194, .iaload, 1, 195), (195, .istore 5, 2, 197), (197, .iinc 8 1, 3, 200), (200, .goto (-122), 3, 203), (203, .iload 4, 2, 205), (205, .ifCond .ne 8, 3, 208), (208, .iload 5, 2, 210), (210, .goto 5, 3, 213), (213, .iload 8, 2, 215), (215, .ireturn, 1, 216)]
theorem dt_Md_reason_1 : ev_dall m_Md_reason tb_Md_reason_1 := by decide +kernel
def tb_Md_save_0 : ev_tab := [(0, .aload_n 0, 1, 1), (1, .iload_n 1, 1, 2), (2, .ifCond .lt 20, 3, 5), (5, .iload_n 1, 1, 6), (6, .iconst 4, 1, 7), (7, .if_icmp .ge 15, 3, 10), (10, .aload_n 0, 1, 11), (11, .iload_n 2, 1, 12), (12, .invokevirtual 116, 3, 15), (15, .ifCond .eq 7, 3, 18), (18, .iconst 0, 1, 19), (19, .goto 4, 3, 22), (22, .iconst 1, 1, 23), (23, .putfield 95, 3, 26), (26, .aload_n 0, 1, 27), (27, .getfield 95, 3, 30), (30, .ifCond .le 5, 3, 33), (33, .iconst 0, 1, 34), (34, .ireturn, 1, 35), (35, .aload_n 0, 1, 36), (36, .getfield 41, 3, 39), (39, .iload_n 1, 1, 40), (40, .aload_n 0, 1, 41), (41, .getfield 41, 3, 44), (44, .iconst 4, 1, 45), (45, .iaload, 1, 46), (46, .iastore, 1, 47), (47, .iconst 0, 1, 48), (48, .istore_n 3, 1, 49), (49, .iload_n 3, 1, 50), (50, .iconst 4, 1, 51), (51, .if_icmp .ge 66, 3, 54), (54, .aload_n 0, 1, 55), (55, .getfield 44, 3, 58), (58, .iconst 4, 1, 59), (59, .iload_n 1, 1, 60), (60, .imul, 1, 61), (61, .iload_n 3, 1, 62), (62, .iadd, 1, 63), (63, .aload_n 0, 1, 64), (64, .getfield 44, 3, 67), (67, .bipush 16, 2, 69), (69, .iload_n 3, 1, 70), (70, .iadd, 1, 71), (71, .iaload, 1, 72), (72, .iastore, 1, 73), (73, .aload_n 0, 1, 74), (74, .getfield 47, 3, 77), (77, .iconst 4, 1, 78), (78, .iload_n 1, 1, 79), (79, .imul, 1, 80), (80, .iload_n 3, 1, 81), (81, .iadd, 1, 82), (82, .aload_n 0, 1, 83), (83, .getfield 47, 3, 86), (86, .bipush 16, 2, 88), (88, .iload_n 3, 1, 89), (89, .iadd, 1, 90), (90, .iaload, 1, 91), (91, .iastore, 1, 92)]
theorem dt_Md_save_0 : ev_dall m_Md_save tb_Md_save_0 := by decide +kernel
def tb_Md_save_1 : ev_tab := [(92, .aload_n 0, 1, 93), (93, .getfield 50, 3, 96), (96, .iconst 4, 1, 97), (97, .iload_n 1, 1, 98), (98, .imul, 1, 99), (99, .iload_n 3, 1, 100), (100, .iadd, 1, 101), (101, .aload_n 0, 1, 102), (102, .getfield 50, 3, 105), (105, .bipush 16, 2, 107), (107, .iload_n 3, 1, 108), (108, .iadd, 1, 109), (109, .iaload, 1, 110), (110, .iastore, 1, 111), (111, .iinc 3 1, 3, 114), (114, .goto (-65), 3, 117), (117, .aload_n 0, 1, 118), (118, .getfield 53, 3, 121), (121, .iload_n 1, 1, 122), (122, .iconst 1, 1, 123), (123, .bastore, 1, 124), (124, .aload_n 0, 1, 125), (125, .getfield 56, 3, 128), (128, .iload_n 1, 1, 129), (129, .iload_n 2, 1, 130), (130, .iastore, 1, 131), (131, .aload_n 0, 1, 132), (132, .iload_n 1, 1, 133), (133, .invokevirtual 176, 3, 136), (136, .ireturn, 1, 137)]
theorem dt_Md_save_1 : ev_dall m_Md_save tb_Md_save_1 := by decide +kernel
def tb_Md_readNow_0 : ev_tab := [(0, .aload_n 0, 1, 1), (1, .aload_n 0, 1, 2), (2, .getfield 56, 3, 5), (5, .iload_n 1, 1, 6), (6, .iaload, 1, 7), (7, .iload_n 1, 1, 8), (8, .iconst 4, 1, 9), (9, .invokevirtual 166, 3, 12), (12, .istore_n 2, 1, 13), (13, .iconst 0, 1, 14), (14, .istore_n 3, 1, 15), (15, .iload_n 3, 1, 16), (16, .bipush 120, 2, 18), (18, .if_icmp .ge 42, 3, 21), (21, .aload_n 0, 1, 22), (22, .getfield 59, 3, 25), (25, .bipush 120, 2, 27), (27, .iload_n 1, 1, 28), (28, .imul, 1, 29), (29, .iload_n 3, 1, 30), (30, .iadd, 1, 31), (31, .iload_n 3, 1, 32), (32, .aload_n 0, 1, 33), (33, .getfield 99, 3, 36), (36, .if_icmp .ge 16, 3, 39), (39, .aload_n 0, 1, 40), (40, .getfield 62, 3, 43), (43, .iload_n 3, 1, 44), (44, .baload, 1, 45), (45, .ifCond .eq 7, 3, 48), (48, .iconst 1, 1, 49), (49, .goto 4, 3, 52), (52, .iconst 0, 1, 53), (53, .bastore, 1, 54), (54, .iinc 3 1, 3, 57), (57, .goto (-42), 3, 60), (60, .iload_n 2, 1, 61), (61, .ireturn, 1, 62)]
theorem dt_Md_readNow_0 : ev_dall m_Md_readNow tb_Md_readNow_0 := by decide +kernel
def tb_Md_saved_0 : ev_tab := [(0, .aload_n 0, 1, 1), (1, .iconst 0, 1, 2), (2, .putfield 95, 3, 5), (5, .iload_n 1, 1, 6), (6, .ifCond .lt 17, 3, 9), (9, .iload_n 1, 1, 10), (10, .iconst 3, 1, 11), (11, .if_icmp .gt 12, 3, 14), (14, .iload_n 2, 1, 15), (15, .ifCond .lt 8, 3, 18), (18, .iload_n 2, 1, 19), (19, .iconst 2, 1, 20), (20, .if_icmp .le 5, 3, 23), (23, .iconst (-1), 1, 24), (24, .ireturn, 1, 25), (25, .aload_n 0, 1, 26), (26, .getfield 53, 3, 29), (29, .iload_n 1, 1, 30), (30, .baload, 1, 31), (31, .ifCond .ne 5, 3, 34), (34, .iconst (-1), 1, 35), (35, .ireturn, 1, 36), (36, .aload_n 0, 1, 37), (37, .aload_n 0, 1, 38), (38, .getfield 56, 3, 41), (41, .iload_n 1, 1, 42), (42, .iaload, 1, 43), (43, .iload_n 1, 1, 44), (44, .iconst 4, 1, 45), (45, .invokevirtual 166, 3, 48), (48, .istore 4, 2, 50), (50, .iconst 0, 1, 51), (51, .istore 5, 2, 53), (53, .iconst 0, 1, 54), (54, .istore 6, 2, 56), (56, .iload 6, 2, 58), (58, .aload_n 0, 1, 59), (59, .getfield 99, 3, 62), (62, .if_icmp .ge 116, 3, 65), (65, .aload_n 0, 1, 66), (66, .getfield 59, 3, 69), (69, .bipush 120, 2, 71), (71, .iload_n 1, 1, 72), (72, .imul, 1, 73), (73, .iload 6, 2, 75), (75, .iadd, 1, 76), (76, .baload, 1, 77), (77, .istore 7, 2, 79), (79, .iload_n 2, 1, 80), (80, .ifCond .ne 13, 3, 83), (83, .aload_n 0, 1, 84), (84, .getfield 62, 3, 87), (87, .iload 6, 2, 89), (89, .baload, 1, 90), (90, .goto 51, 3, 93), (93, .iload_n 2, 1, 94), (94, .iconst 1, 1, 95), (95, .if_icmp .ne 26, 3, 98), (98, .aload_n 0, 1, 99), (99, .getfield 62, 3, 102)]
theorem dt_Md_saved_0 : ev_dall m_Md_saved tb_Md_saved_0 := by decide +kernel
def tb_Md_saved_1 : ev_tab := [(102, .iload 6, 2, 104), (104, .baload, 1, 105), (105, .ifCond .eq 12, 3, 108), (108, .iload 7, 2, 110), (110, .ifCond .ne 7, 3, 113), (113, .iconst 1, 1, 114), (114, .goto 27, 3, 117), (117, .iconst 0, 1, 118), (118, .goto 23, 3, 121), (121, .iload 7, 2, 123), (123, .ifCond .eq 17, 3, 126), (126, .aload_n 0, 1, 127), (127, .getfield 62, 3, 130), (130, .iload 6, 2, 132), (132, .baload, 1, 133), (133, .ifCond .ne 7, 3, 136), (136, .iconst 1, 1, 137), (137, .goto 4, 3, 140), (140, .iconst 0, 1, 141), (141, .istore 8, 2, 143), (143, .iload 8, 2, 145), (145, .ifCond .eq 12, 3, 148), (148, .iload 5, 2, 150), (150, .iload_n 3, 1, 151), (151, .if_icmp .ne 6, 3, 154), (154, .iload 6, 2, 156), (156, .ireturn, 1, 157), (157, .iload 5, 2, 159), (159, .iload 8, 2, 161), (161, .ifCond .eq 7, 3, 164), (164, .iconst 1, 1, 165), (165, .goto 4, 3, 168), (168, .iconst 0, 1, 169), (169, .iadd, 1, 170), (170, .istore 5, 2, 172), (172, .iinc 6 1, 3, 175), (175, .goto (-119), 3, 178), (178, .iload_n 3, 1, 179), (179, .iconst (-1), 1, 180), (180, .if_icmp .ne 8, 3, 183), (183, .iload 5, 2, 185), (185, .goto 4, 3, 188), (188, .iconst (-1), 1, 189), (189, .ireturn, 1, 190)]
theorem dt_Md_saved_1 : ev_dall m_Md_saved tb_Md_saved_1 := by decide +kernel
def tb_Md_read_0 : ev_tab := [(0, .aload_n 0, 1, 1), (1, .iconst 0, 1, 2), (2, .putfield 95, 3, 5), (5, .iload_n 1, 1, 6), (6, .ifCond .lt 8, 3, 9), (9, .iload_n 1, 1, 10), (10, .iconst 3, 1, 11), (11, .if_icmp .le 5, 3, 14), (14, .iconst 0, 1, 15), (15, .ireturn, 1, 16), (16, .aload_n 0, 1, 17), (17, .getfield 53, 3, 20), (20, .iload_n 1, 1, 21), (21, .baload, 1, 22), (22, .ifCond .eq 9, 3, 25), (25, .aload_n 0, 1, 26), (26, .iload_n 1, 1, 27), (27, .invokevirtual 176, 3, 30), (30, .istore_n 2, 1, 31), (31, .aload_n 0, 1, 32), (32, .getfield 53, 3, 35), (35, .iload_n 1, 1, 36), (36, .baload, 1, 37), (37, .ireturn, 1, 38)]
theorem dt_Md_read_0 : ev_dall m_Md_read tb_Md_read_0 := by decide +kernel
def tb_Md_reduce_0 : ev_tab := [(0, .aload_n 0, 1, 1), (1, .aload_n 0, 1, 2), (2, .iload_n 1, 1, 3), (3, .invokevirtual 116, 3, 6), (6, .ifCond .eq 7, 3, 9), (9, .iconst 0, 1, 10), (10, .goto 4, 3, 13), (13, .iconst 1, 1, 14), (14, .putfield 95, 3, 17), (17, .aload_n 0, 1, 18), (18, .getfield 95, 3, 21), (21, .ifCond .le 5, 3, 24), (24, .iconst 0, 1, 25), (25, .ireturn, 1, 26), (26, .aload_n 0, 1, 27), (27, .iconst 0, 1, 28), (28, .putfield 180, 3, 31), (31, .iconst 0, 1, 32), (32, .istore_n 2, 1, 33), (33, .iload_n 2, 1, 34), (34, .iload_n 1, 1, 35), (35, .if_icmp .gt 66, 3, 38), (38, .aload_n 0, 1, 39), (39, .getfield 86, 3, 42), (42, .iload_n 2, 1, 43), (43, .aload_n 0, 1, 44), (44, .getfield 17, 3, 47), (47, .iload_n 2, 1, 48), (48, .iaload, 1, 49), (49, .bipush 6, 2, 51), (51, .if_icmp .ge 11, 3, 54), (54, .aload_n 0, 1, 55), (55, .iload_n 2, 1, 56), (56, .invokevirtual 196, 3, 59), (59, .goto 35, 3, 62), (62, .aload_n 0, 1, 63), (63, .aload_n 0, 1, 64), (64, .getfield 17, 3, 67), (67, .iload_n 2, 1, 68), (68, .iaload, 1, 69), (69, .aload_n 0, 1, 70), (70, .getfield 86, 3, 73), (73, .aload_n 0, 1, 74), (74, .getfield 23, 3, 77), (77, .iload_n 2, 1, 78), (78, .iaload, 1, 79), (79, .iaload, 1, 80), (80, .aload_n 0, 1, 81), (81, .getfield 86, 3, 84), (84, .aload_n 0, 1, 85), (85, .getfield 26, 3, 88), (88, .iload_n 2, 1, 89), (89, .iaload, 1, 90), (90, .iaload, 1, 91), (91, .invokevirtual 199, 3, 94), (94, .iastore, 1, 95), (95, .iinc 2 1, 3, 98), (98, .goto (-65), 3, 101), (101, .aload_n 0, 1, 102), (102, .aload_n 0, 1, 103)]
theorem dt_Md_reduce_0 : ev_dall m_Md_reduce tb_Md_reduce_0 := by decide +kernel
def tb_Md_reduce_1 : ev_tab := [(103, .getfield 86, 3, 106), (106, .iload_n 1, 1, 107), (107, .iaload, 1, 108), (108, .invokevirtual 202, 3, 111), (111, .aload_n 0, 1, 112), (112, .getfield 190, 3, 115), (115, .ireturn, 1, 116)]
theorem dt_Md_reduce_1 : ev_dall m_Md_reduce tb_Md_reduce_1 := by decide +kernel
def tb_Md_reducedOrder_0 : ev_tab := [(0, .aload_n 0, 1, 1), (1, .getfield 17, 3, 4), (4, .iload_n 1, 1, 5), (5, .iaload, 1, 6), (6, .istore_n 2, 1, 7), (7, .iload_n 2, 1, 8), (8, .iconst 2, 1, 9), (9, .if_icmp .eq 8, 3, 12), (12, .iload_n 2, 1, 13), (13, .iconst 3, 1, 14), (14, .if_icmp .ne 12, 3, 17), (17, .aload_n 0, 1, 18), (18, .getfield 23, 3, 21), (21, .iload_n 1, 1, 22), (22, .iaload, 1, 23), (23, .goto 13, 3, 26), (26, .iload_n 2, 1, 27), (27, .iconst 3, 1, 28), (28, .if_icmp .le 7, 3, 31), (31, .iload_n 1, 1, 32), (32, .goto 4, 3, 35), (35, .iconst 0, 1, 36), (36, .istore_n 3, 1, 37), (37, .aload_n 0, 1, 38), (38, .iload_n 2, 1, 39), (39, .aload_n 0, 1, 40), (40, .getfield 20, 3, 43), (43, .iload_n 1, 1, 44), (44, .iaload, 1, 45), (45, .iload_n 3, 1, 46), (46, .iload_n 2, 1, 47), (47, .iconst 3, 1, 48), (48, .if_icmp .ne 12, 3, 51), (51, .aload_n 0, 1, 52), (52, .getfield 26, 3, 55), (55, .iload_n 1, 1, 56), (56, .iaload, 1, 57), (57, .goto 4, 3, 60), (60, .iconst 0, 1, 61), (61, .invokevirtual 183, 3, 64), (64, .ireturn, 1, 65)]
theorem dt_Md_reducedOrder_0 : ev_dall m_Md_reducedOrder tb_Md_reducedOrder_0 := by decide +kernel
def tb_Md_place_0 : ev_tab := [(0, .iconst 0, 1, 1), (1, .istore 5, 2, 3), (3, .iload 5, 2, 5), (5, .aload_n 0, 1, 6), (6, .getfield 180, 3, 9), (9, .if_icmp .ge 57, 3, 12), (12, .aload_n 0, 1, 13), (13, .getfield 71, 3, 16), (16, .iload 5, 2, 18), (18, .iaload, 1, 19), (19, .iload_n 1, 1, 20), (20, .if_icmp .ne 40, 3, 23), (23, .aload_n 0, 1, 24), (24, .getfield 74, 3, 27), (27, .iload 5, 2, 29), (29, .iaload, 1, 30), (30, .iload_n 2, 1, 31), (31, .if_icmp .ne 29, 3, 34), (34, .aload_n 0, 1, 35), (35, .getfield 77, 3, 38), (38, .iload 5, 2, 40), (40, .iaload, 1, 41), (41, .iload_n 3, 1, 42), (42, .if_icmp .ne 18, 3, 45), (45, .aload_n 0, 1, 46), (46, .getfield 80, 3, 49), (49, .iload 5, 2, 51), (51, .iaload, 1, 52), (52, .iload 4, 2, 54), (54, .if_icmp .ne 6, 3, 57), (57, .iload 5, 2, 59), (59, .ireturn, 1, 60), (60, .iinc 5 1, 3, 63), (63, .goto (-60), 3, 66), (66, .aload_n 0, 1, 67), (67, .getfield 71, 3, 70), (70, .aload_n 0, 1, 71), (71, .getfield 180, 3, 74), (74, .iload_n 1, 1, 75), (75, .iastore, 1, 76), (76, .aload_n 0, 1, 77), (77, .getfield 74, 3, 80), (80, .aload_n 0, 1, 81), (81, .getfield 180, 3, 84), (84, .iload_n 2, 1, 85), (85, .iastore, 1, 86), (86, .aload_n 0, 1, 87), (87, .getfield 77, 3, 90), (90, .aload_n 0, 1, 91), (91, .getfield 180, 3, 94), (94, .iload_n 3, 1, 95), (95, .iastore, 1, 96), (96, .aload_n 0, 1, 97), (97, .getfield 80, 3, 100), (100, .aload_n 0, 1, 101), (101, .getfield 180, 3, 104), (104, .iload 4, 2, 106), (106, .iastore, 1, 107), (107, .aload_n 0, 1, 108), (108, .getfield 83, 3, 111)]
theorem dt_Md_place_0 : ev_dall m_Md_place tb_Md_place_0 := by decide +kernel
def tb_Md_place_1 : ev_tab := [(111, .aload_n 0, 1, 112), (112, .getfield 180, 3, 115), (115, .iload_n 1, 1, 116), (116, .bipush 6, 2, 118), (118, .if_icmp .ge 9, 3, 121), (121, .iconst 1, 1, 122), (122, .iload_n 2, 1, 123), (123, .ishl, 1, 124), (124, .goto 17, 3, 127), (127, .aload_n 0, 1, 128), (128, .getfield 83, 3, 131), (131, .iload_n 3, 1, 132), (132, .iaload, 1, 133), (133, .aload_n 0, 1, 134), (134, .getfield 83, 3, 137), (137, .iload 4, 2, 139), (139, .iaload, 1, 140), (140, .ior, 1, 141), (141, .iastore, 1, 142), (142, .aload_n 0, 1, 143), (143, .dup, 1, 144), (144, .getfield 180, 3, 147), (147, .iconst 1, 1, 148), (148, .iadd, 1, 149), (149, .putfield 180, 3, 152), (152, .aload_n 0, 1, 153), (153, .getfield 180, 3, 156), (156, .iconst 1, 1, 157), (157, .isub, 1, 158), (158, .ireturn, 1, 159)]
theorem dt_Md_place_1 : ev_dall m_Md_place tb_Md_place_1 := by decide +kernel
def tb_Md_reducedTerm_0 : ev_tab := [(0, .iload_n 1, 1, 1), (1, .bipush 9, 2, 3), (3, .if_icmp .ne 9, 3, 6), (6, .aload_n 0, 1, 7), (7, .iload_n 2, 1, 8), (8, .invokevirtual 187, 3, 11), (11, .ireturn, 1, 12), (12, .iload_n 2, 1, 13), (13, .iload_n 3, 1, 14), (14, .if_icmp .eq 27, 3, 17), (17, .iload_n 1, 1, 18), (18, .bipush 7, 2, 20), (20, .if_icmp .ne 23, 3, 23), (23, .aload_n 0, 1, 24), (24, .getfield 83, 3, 27), (27, .iload_n 3, 1, 28), (28, .iaload, 1, 29), (29, .aload_n 0, 1, 30), (30, .getfield 83, 3, 33), (33, .iload_n 2, 1, 34), (34, .iaload, 1, 35), (35, .iconst (-1), 1, 36), (36, .ixor, 1, 37), (37, .iand, 1, 38), (38, .ifCond .ne 5, 3, 41), (41, .iload_n 2, 1, 42), (42, .ireturn, 1, 43), (43, .iload_n 1, 1, 44), (44, .bipush 7, 2, 46), (46, .if_icmp .eq 29, 3, 49), (49, .aload_n 0, 1, 50), (50, .getfield 71, 3, 53), (53, .iload_n 2, 1, 54), (54, .iaload, 1, 55), (55, .bipush 9, 2, 57), (57, .if_icmp .ne 18, 3, 60), (60, .aload_n 0, 1, 61), (61, .getfield 71, 3, 64), (64, .iload_n 3, 1, 65), (65, .iaload, 1, 66), (66, .bipush 9, 2, 68), (68, .if_icmp .ne 7, 3, 71), (71, .iconst 1, 1, 72), (72, .goto 4, 3, 75), (75, .iconst 0, 1, 76), (76, .istore 4, 2, 78), (78, .iload 4, 2, 80), (80, .ifCond .eq 28, 3, 83), (83, .aload_n 0, 1, 84), (84, .aload_n 0, 1, 85), (85, .iload_n 1, 1, 86), (86, .iconst (-1), 1, 87), (87, .aload_n 0, 1, 88), (88, .getfield 77, 3, 91), (91, .iload_n 2, 1, 92), (92, .iaload, 1, 93), (93, .aload_n 0, 1, 94), (94, .getfield 77, 3, 97), (97, .iload_n 3, 1, 98), (98, .iaload, 1, 99)]
theorem dt_Md_reducedTerm_0 : ev_dall m_Md_reducedTerm tb_Md_reducedTerm_0 := by decide +kernel
def tb_Md_reducedTerm_1 : ev_tab := [(99, .invokevirtual 183, 3, 102), (102, .invokevirtual 187, 3, 105), (105, .goto 11, 3, 108), (108, .aload_n 0, 1, 109), (109, .iload_n 1, 1, 110), (110, .iconst (-1), 1, 111), (111, .iload_n 2, 1, 112), (112, .iload_n 3, 1, 113), (113, .invokevirtual 183, 3, 116), (116, .ireturn, 1, 117)]
theorem dt_Md_reducedTerm_1 : ev_dall m_Md_reducedTerm tb_Md_reducedTerm_1 := by decide +kernel
def tb_Md_dual_0 : ev_tab := [(0, .aload_n 0, 1, 1), (1, .getfield 71, 3, 4), (4, .iload_n 1, 1, 5), (5, .iaload, 1, 6), (6, .istore_n 2, 1, 7), (7, .iload_n 2, 1, 8), (8, .bipush 9, 2, 10), (10, .if_icmp .ne 10, 3, 13), (13, .aload_n 0, 1, 14), (14, .getfield 77, 3, 17), (17, .iload_n 1, 1, 18), (18, .iaload, 1, 19), (19, .ireturn, 1, 20), (20, .iload_n 2, 1, 21), (21, .iconst 2, 1, 22), (22, .if_icmp .ge 21, 3, 25), (25, .aload_n 0, 1, 26), (26, .iconst 1, 1, 27), (27, .iload_n 2, 1, 28), (28, .isub, 1, 29), (29, .aload_n 0, 1, 30), (30, .getfield 74, 3, 33), (33, .iload_n 1, 1, 34), (34, .iaload, 1, 35), (35, .iconst 0, 1, 36), (36, .iconst 0, 1, 37), (37, .invokevirtual 183, 3, 40), (40, .goto 12, 3, 43), (43, .aload_n 0, 1, 44), (44, .bipush 9, 2, 46), (46, .iconst (-1), 1, 47), (47, .iload_n 1, 1, 48), (48, .iload_n 1, 1, 49), (49, .invokevirtual 183, 3, 52), (52, .ireturn, 1, 53)]
theorem dt_Md_dual_0 : ev_dall m_Md_dual tb_Md_dual_0 := by decide +kernel
def tb_Md_write_0 : ev_tab := [(0, .aload_n 0, 1, 1), (1, .iconst 0, 1, 2), (2, .putfield 190, 3, 5), (5, .aload_n 0, 1, 6), (6, .getfield 92, 3, 9), (9, .iconst 0, 1, 10), (10, .iload_n 1, 1, 11), (11, .iastore, 1, 12), (12, .iconst 1, 1, 13), (13, .istore_n 2, 1, 14), (14, .iload_n 2, 1, 15), (15, .ifCond .le 135, 3, 18), (18, .iinc 2 (-1), 3, 21), (21, .aload_n 0, 1, 22), (22, .getfield 92, 3, 25), (25, .iload_n 2, 1, 26), (26, .iaload, 1, 27), (27, .istore_n 3, 1, 28), (28, .aload_n 0, 1, 29), (29, .getfield 71, 3, 32), (32, .iload_n 3, 1, 33), (33, .iaload, 1, 34), (34, .istore 4, 2, 36), (36, .aload_n 0, 1, 37), (37, .iload 4, 2, 39), (39, .invokevirtual 193, 3, 42), (42, .iload 4, 2, 44), (44, .bipush 6, 2, 46), (46, .if_icmp .ge 13, 3, 49), (49, .aload_n 0, 1, 50), (50, .aload_n 0, 1, 51), (51, .getfield 74, 3, 54), (54, .iload_n 3, 1, 55), (55, .iaload, 1, 56), (56, .invokevirtual 193, 3, 59), (59, .iload 4, 2, 61), (61, .iconst 1, 1, 62), (62, .if_icmp .le 20, 3, 65), (65, .iload 4, 2, 67), (67, .bipush 6, 2, 69), (69, .if_icmp .ge 13, 3, 72), (72, .aload_n 0, 1, 73), (73, .aload_n 0, 1, 74), (74, .getfield 77, 3, 77), (77, .iload_n 3, 1, 78), (78, .iaload, 1, 79), (79, .invokevirtual 193, 3, 82), (82, .iload 4, 2, 84), (84, .iconst 3, 1, 85), (85, .if_icmp .ne 13, 3, 88), (88, .aload_n 0, 1, 89), (89, .aload_n 0, 1, 90), (90, .getfield 80, 3, 93), (93, .iload_n 3, 1, 94), (94, .iaload, 1, 95), (95, .invokevirtual 193, 3, 98), (98, .iload 4, 2, 100), (100, .iconst 5, 1, 101), (101, .if_icmp .le 25, 3, 104), (104, .iload 4, 2, 106)]
theorem dt_Md_write_0 : ev_dall m_Md_write tb_Md_write_0 := by decide +kernel
def tb_Md_write_1 : ev_tab := [(106, .bipush 9, 2, 108), (108, .if_icmp .ge 18, 3, 111), (111, .aload_n 0, 1, 112), (112, .getfield 92, 3, 115), (115, .iload_n 2, 1, 116), (116, .aload_n 0, 1, 117), (117, .getfield 80, 3, 120), (120, .iload_n 3, 1, 121), (121, .iaload, 1, 122), (122, .iastore, 1, 123), (123, .iinc 2 1, 3, 126), (126, .iload 4, 2, 128), (128, .iconst 5, 1, 129), (129, .if_icmp .le 18, 3, 132), (132, .aload_n 0, 1, 133), (133, .getfield 92, 3, 136), (136, .iload_n 2, 1, 137), (137, .aload_n 0, 1, 138), (138, .getfield 77, 3, 141), (141, .iload_n 3, 1, 142), (142, .iaload, 1, 143), (143, .iastore, 1, 144), (144, .iinc 2 1, 3, 147), (147, .goto (-133), 3, 150), (150, .return_, 1, 151)]
theorem dt_Md_write_1 : ev_dall m_Md_write tb_Md_write_1 := by decide +kernel
def tb_Md_emit_0 : ev_tab := [(0, .aload_n 0, 1, 1), (1, .getfield 89, 3, 4), (4, .aload_n 0, 1, 5), (5, .getfield 190, 3, 8), (8, .iload_n 1, 1, 9), (9, .iastore, 1, 10), (10, .aload_n 0, 1, 11), (11, .dup, 1, 12), (12, .getfield 190, 3, 15), (15, .iconst 1, 1, 16), (16, .iadd, 1, 17), (17, .putfield 190, 3, 20), (20, .return_, 1, 21)]
theorem dt_Md_emit_0 : ev_dall m_Md_emit tb_Md_emit_0 := by decide +kernel
def tb_Md_form_0 : ev_tab := [(0, .aload_n 0, 1, 1), (1, .iload_n 1, 1, 2), (2, .ifCond .lt 15, 3, 5), (5, .iload_n 1, 1, 6), (6, .aload_n 0, 1, 7), (7, .getfield 190, 3, 10), (10, .if_icmp .ge 7, 3, 13), (13, .iconst 0, 1, 14), (14, .goto 4, 3, 17), (17, .iconst 1, 1, 18), (18, .putfield 95, 3, 21), (21, .aload_n 0, 1, 22), (22, .getfield 95, 3, 25), (25, .ifCond .le 7, 3, 28), (28, .iconst 0, 1, 29), (29, .goto 9, 3, 32), (32, .aload_n 0, 1, 33), (33, .getfield 89, 3, 36), (36, .iload_n 1, 1, 37), (37, .iaload, 1, 38), (38, .ireturn, 1, 39)]
theorem dt_Md_form_0 : ev_dall m_Md_form tb_Md_form_0 := by decide +kernel
end
section
/-! Decode tables (written by gen_lean.py). -/
def tb_Lw_row_0 : ev_tab := [(0, .aload 5, 2, 2), (2, .iconst 0, 1, 3), (3, .aload_n 0, 1, 4), (4, .iload_n 1, 1, 5), (5, .iload_n 2, 1, 6), (6, .iload_n 3, 1, 7), (7, .iload 4, 2, 9), (9, .invokevirtual 7, 3, 12), (12, .i2l, 1, 13), (13, .lastore, 1, 14), (14, .goto 7, 3, 17), (17, .astore 6, 2, 19), (19, .iconst 1, 1, 20), (20, .ireturn, 1, 21), (21, .iconst 0, 1, 22), (22, .ireturn, 1, 23)]
theorem dt_Lw_row_0 : ev_dall m_Lw_row tb_Lw_row_0 := by decide +kernel
def tb_Lw_value_0 : ev_tab := [(0, .aload_n 3, 1, 1), (1, .iconst 0, 1, 2), (2, .aload_n 0, 1, 3), (3, .iload_n 1, 1, 4), (4, .iload_n 2, 1, 5), (5, .invokevirtual 15, 3, 8), (8, .i2l, 1, 9), (9, .lastore, 1, 10), (10, .goto 7, 3, 13), (13, .astore 4, 2, 15), (15, .iconst 1, 1, 16), (16, .ireturn, 1, 17), (17, .iconst 0, 1, 18), (18, .ireturn, 1, 19)]
theorem dt_Lw_value_0 : ev_dall m_Lw_value tb_Lw_value_0 := by decide +kernel
def tb_Lw_order_0 : ev_tab := [(0, .aload 5, 2, 2), (2, .iconst 0, 1, 3), (3, .aload_n 0, 1, 4), (4, .iload_n 1, 1, 5), (5, .iload_n 2, 1, 6), (6, .iload_n 3, 1, 7), (7, .iload 4, 2, 9), (9, .invokevirtual 21, 3, 12), (12, .i2l, 1, 13), (13, .lastore, 1, 14), (14, .goto 11, 3, 17), (17, .astore 6, 2, 19), (19, .iconst 1, 1, 20), (20, .ireturn, 1, 21), (21, .astore 6, 2, 23), (23, .iconst 2, 1, 24), (24, .ireturn, 1, 25), (25, .iconst 0, 1, 26), (26, .ireturn, 1, 27)]
theorem dt_Lw_order_0 : ev_dall m_Lw_order tb_Lw_order_0 := by decide +kernel
def tb_Lw_edge_0 : ev_tab := [(0, .aload 4, 2, 2), (2, .iconst 0, 1, 3), (3, .aload_n 0, 1, 4), (4, .iload_n 1, 1, 5), (5, .iload_n 2, 1, 6), (6, .iload_n 3, 1, 7), (7, .invokevirtual 26, 3, 10), (10, .ifCond .eq 7, 3, 13), (13, .lconst 1, 1, 14), (14, .goto 4, 3, 17), (17, .lconst 0, 1, 18), (18, .lastore, 1, 19), (19, .goto 11, 3, 22), (22, .astore 5, 2, 24), (24, .iconst 1, 1, 25), (25, .ireturn, 1, 26), (26, .astore 5, 2, 28), (28, .iconst 2, 1, 29), (29, .ireturn, 1, 30), (30, .iconst 0, 1, 31), (31, .ireturn, 1, 32)]
theorem dt_Lw_edge_0 : ev_dall m_Lw_edge tb_Lw_edge_0 := by decide +kernel
def tb_Lw_term_0 : ev_tab := [(0, .aload 4, 2, 2), (2, .iconst 0, 1, 3), (3, .aload_n 0, 1, 4), (4, .iload_n 1, 1, 5), (5, .iload_n 2, 1, 6), (6, .iload_n 3, 1, 7), (7, .invokevirtual 30, 3, 10), (10, .i2l, 1, 11), (11, .lastore, 1, 12), (12, .goto 11, 3, 15), (15, .astore 5, 2, 17), (17, .iconst 1, 1, 18), (18, .ireturn, 1, 19), (19, .astore 5, 2, 21), (21, .iconst 2, 1, 22), (22, .ireturn, 1, 23), (23, .iconst 0, 1, 24), (24, .ireturn, 1, 25)]
theorem dt_Lw_term_0 : ev_dall m_Lw_term tb_Lw_term_0 := by decide +kernel
def tb_Lw_condition_0 : ev_tab := [(0, .aload 4, 2, 2), (2, .iconst 0, 1, 3), (3, .aload_n 0, 1, 4), (4, .iload_n 1, 1, 5), (5, .iload_n 2, 1, 6), (6, .iload_n 3, 1, 7), (7, .invokevirtual 34, 3, 10), (10, .i2l, 1, 11), (11, .lastore, 1, 12), (12, .goto 11, 3, 15), (15, .astore 5, 2, 17), (17, .iconst 1, 1, 18), (18, .ireturn, 1, 19), (19, .astore 5, 2, 21), (21, .iconst 2, 1, 22), (22, .ireturn, 1, 23), (23, .iconst 0, 1, 24), (24, .ireturn, 1, 25)]
theorem dt_Lw_condition_0 : ev_dall m_Lw_condition tb_Lw_condition_0 := by decide +kernel
def tb_Lw_compare_0 : ev_tab := [(0, .aload 4, 2, 2), (2, .iconst 0, 1, 3), (3, .aload_n 0, 1, 4), (4, .iload_n 1, 1, 5), (5, .iload_n 2, 1, 6), (6, .iload_n 3, 1, 7), (7, .invokevirtual 37, 3, 10), (10, .i2l, 1, 11), (11, .lastore, 1, 12), (12, .goto 7, 3, 15), (15, .astore 5, 2, 17), (17, .iconst 1, 1, 18), (18, .ireturn, 1, 19), (19, .iconst 0, 1, 20), (20, .ireturn, 1, 21)]
theorem dt_Lw_compare_0 : ev_dall m_Lw_compare tb_Lw_compare_0 := by decide +kernel
def tb_Lw_best_0 : ev_tab := [(0, .aload_n 2, 1, 1), (1, .iconst 0, 1, 2), (2, .aload_n 0, 1, 3), (3, .iload_n 1, 1, 4), (4, .invokevirtual 40, 3, 7), (7, .i2l, 1, 8), (8, .lastore, 1, 9), (9, .goto 6, 3, 12), (12, .astore_n 3, 1, 13), (13, .iconst 1, 1, 14), (14, .ireturn, 1, 15), (15, .iconst 0, 1, 16), (16, .ireturn, 1, 17)]
theorem dt_Lw_best_0 : ev_dall m_Lw_best tb_Lw_best_0 := by decide +kernel
def tb_Lw_grouped_0 : ev_tab := [(0, .aload_n 3, 1, 1), (1, .iconst 0, 1, 2), (2, .aload_n 0, 1, 3), (3, .iload_n 1, 1, 4), (4, .iload_n 2, 1, 5), (5, .invokevirtual 44, 3, 8), (8, .i2l, 1, 9), (9, .lastore, 1, 10), (10, .goto 7, 3, 13), (13, .astore 4, 2, 15), (15, .iconst 1, 1, 16), (16, .ireturn, 1, 17), (17, .iconst 0, 1, 18), (18, .ireturn, 1, 19)]
theorem dt_Lw_grouped_0 : ev_dall m_Lw_grouped tb_Lw_grouped_0 := by decide +kernel
def tb_Lw_top_0 : ev_tab := [(0, .aload_n 3, 1, 1), (1, .iconst 0, 1, 2), (2, .aload_n 0, 1, 3), (3, .iload_n 1, 1, 4), (4, .iload_n 2, 1, 5), (5, .invokevirtual 47, 3, 8), (8, .i2l, 1, 9), (9, .lastore, 1, 10), (10, .goto 11, 3, 13), (13, .astore 4, 2, 15), (15, .iconst 1, 1, 16), (16, .ireturn, 1, 17), (17, .astore 4, 2, 19), (19, .iconst 2, 1, 20), (20, .ireturn, 1, 21), (21, .iconst 0, 1, 22), (22, .ireturn, 1, 23)]
theorem dt_Lw_top_0 : ev_dall m_Lw_top tb_Lw_top_0 := by decide +kernel
def tb_Lw_level_0 : ev_tab := [(0, .aload_n 3, 1, 1), (1, .iconst 0, 1, 2), (2, .aload_n 0, 1, 3), (3, .iload_n 1, 1, 4), (4, .iload_n 2, 1, 5), (5, .invokevirtual 50, 3, 8), (8, .i2l, 1, 9), (9, .lastore, 1, 10), (10, .goto 7, 3, 13), (13, .astore 4, 2, 15), (15, .iconst 1, 1, 16), (16, .ireturn, 1, 17), (17, .iconst 0, 1, 18), (18, .ireturn, 1, 19)]
theorem dt_Lw_level_0 : ev_dall m_Lw_level tb_Lw_level_0 := by decide +kernel
def tb_Lw_reason_0 : ev_tab := [(0, .aload 5, 2, 2), (2, .iconst 0, 1, 3), (3, .aload_n 0, 1, 4), (4, .iload_n 1, 1, 5), (5, .iload_n 2, 1, 6), (6, .iload_n 3, 1, 7), (7, .iload 4, 2, 9), (9, .invokevirtual 53, 3, 12), (12, .i2l, 1, 13), (13, .lastore, 1, 14), (14, .goto 7, 3, 17), (17, .astore 6, 2, 19), (19, .iconst 1, 1, 20), (20, .ireturn, 1, 21), (21, .iconst 0, 1, 22), (22, .ireturn, 1, 23)]
theorem dt_Lw_reason_0 : ev_dall m_Lw_reason tb_Lw_reason_0 := by decide +kernel
def tb_Lw_save_0 : ev_tab := [(0, .aload_n 3, 1, 1), (1, .iconst 0, 1, 2), (2, .aload_n 0, 1, 3), (3, .iload_n 1, 1, 4), (4, .iload_n 2, 1, 5), (5, .invokevirtual 56, 3, 8), (8, .i2l, 1, 9), (9, .lastore, 1, 10), (10, .goto 7, 3, 13), (13, .astore 4, 2, 15), (15, .iconst 1, 1, 16), (16, .ireturn, 1, 17), (17, .iconst 0, 1, 18), (18, .ireturn, 1, 19)]
theorem dt_Lw_save_0 : ev_dall m_Lw_save tb_Lw_save_0 := by decide +kernel
def tb_Lw_reduce_0 : ev_tab := [(0, .aload_n 2, 1, 1), (1, .iconst 0, 1, 2), (2, .aload_n 0, 1, 3), (3, .iload_n 1, 1, 4), (4, .invokevirtual 59, 3, 7), (7, .i2l, 1, 8), (8, .lastore, 1, 9), (9, .goto 6, 3, 12), (12, .astore_n 3, 1, 13), (13, .iconst 1, 1, 14), (14, .ireturn, 1, 15), (15, .iconst 0, 1, 16), (16, .ireturn, 1, 17)]
theorem dt_Lw_reduce_0 : ev_dall m_Lw_reduce tb_Lw_reduce_0 := by decide +kernel
def tb_Lw_form_0 : ev_tab := [(0, .aload_n 2, 1, 1), (1, .iconst 0, 1, 2), (2, .aload_n 0, 1, 3), (3, .iload_n 1, 1, 4), (4, .invokevirtual 62, 3, 7), (7, .i2l, 1, 8), (8, .lastore, 1, 9), (9, .goto 6, 3, 12), (12, .astore_n 3, 1, 13), (13, .iconst 1, 1, 14), (14, .ireturn, 1, 15), (15, .iconst 0, 1, 16), (16, .ireturn, 1, 17)]
theorem dt_Lw_form_0 : ev_dall m_Lw_form tb_Lw_form_0 := by decide +kernel
end
section
/-! Decode tables (written by gen_lean.py). -/
def tb_Lw_law_0 : ev_tab := [(0, .new 8, 3, 3), (3, .dup, 1, 4), (4, .invokespecial 65, 3, 7), (7, .astore_n 1, 1, 8), (8, .new 66, 3, 11), (11, .dup, 1, 12), (12, .invokespecial 68, 3, 15), (15, .astore_n 2, 1, 16), (16, .iconst 1, 1, 17), (17, .newarray .long, 2, 19), (19, .astore_n 3, 1, 20), (20, .iconst 0, 1, 21), (21, .istore 4, 2, 23), (23, .iload 4, 2, 25), (25, .aload_n 0, 1, 26), (26, .arraylength, 1, 27), (27, .iconst 5, 1, 28), (28, .isub, 1, 29), (29, .if_icmp .gt 1461, 3, 32), (32, .aload_n 0, 1, 33), (33, .iload 4, 2, 35), (35, .iaload, 1, 36), (36, .bipush 31, 2, 38), (38, .iand, 1, 39), (39, .tableswitch 1445 0 21 #[101, 193, 242, 267, 335, 427, 476, 563, 643, 723, 734, 814, 870, 938, 1006, 1074, 1099, 1191, 1259, 1308, 1333, 1389], 101, 140), (140, .aload_n 1, 1, 141), (141, .aload_n 0, 1, 142), (142, .iload 4, 2, 144), (144, .iconst 1, 1, 145), (145, .iadd, 1, 146), (146, .iaload, 1, 147), (147, .aload_n 0, 1, 148), (148, .iload 4, 2, 150), (150, .iconst 2, 1, 151), (151, .iadd, 1, 152), (152, .iaload, 1, 153), (153, .aload_n 0, 1, 154), (154, .iload 4, 2, 156), (156, .iconst 3, 1, 157), (157, .iadd, 1, 158), (158, .iaload, 1, 159), (159, .aload_n 0, 1, 160), (160, .iload 4, 2, 162), (162, .iconst 4, 1, 163), (163, .iadd, 1, 164), (164, .iaload, 1, 165), (165, .aload_n 3, 1, 166), (166, .invokestatic 69, 3, 169), (169, .istore 5, 2, 171), (171, .aload_n 2, 1, 172), (172, .aload_n 0, 1, 173), (173, .iload 4, 2, 175), (175, .iconst 1, 1, 176), (176, .iadd, 1, 177), (177, .iaload, 1, 178), (178, .aload_n 0, 1, 179), (179, .iload 4, 2, 181), (181, .iconst 2, 1, 182), (182, .iadd, 1, 183), (183, .iaload, 1, 184)]
theorem dt_Lw_law_0 : ev_dall m_Lw_law tb_Lw_law_0 := by decide +kernel
def tb_Lw_law_1 : ev_tab := [(184, .aload_n 0, 1, 185), (185, .iload 4, 2, 187), (187, .iconst 3, 1, 188), (188, .iadd, 1, 189), (189, .iaload, 1, 190), (190, .aload_n 0, 1, 191), (191, .iload 4, 2, 193), (193, .iconst 4, 1, 194), (194, .iadd, 1, 195), (195, .iaload, 1, 196), (196, .invokevirtual 74, 3, 199), (199, .istore 6, 2, 201), (201, .aload_n 2, 1, 202), (202, .invokevirtual 75, 3, 205), (205, .iload 5, 2, 207), (207, .if_icmp .eq 5, 3, 210), (210, .iconst 0, 1, 211), (211, .ireturn, 1, 212), (212, .iload 5, 2, 214), (214, .ifCond .ne 15, 3, 217), (217, .aload_n 3, 1, 218), (218, .iconst 0, 1, 219), (219, .laload, 1, 220), (220, .iload 6, 2, 222), (222, .i2l, 1, 223), (223, .lcmp, 1, 224), (224, .ifCond .eq 5, 3, 227), (227, .iconst 0, 1, 228), (228, .ireturn, 1, 229), (229, .goto 1255, 3, 232), (232, .aload_n 1, 1, 233), (233, .aload_n 0, 1, 234), (234, .iload 4, 2, 236), (236, .iconst 1, 1, 237), (237, .iadd, 1, 238), (238, .iaload, 1, 239), (239, .aload_n 0, 1, 240), (240, .iload 4, 2, 242), (242, .iconst 2, 1, 243), (243, .iadd, 1, 244), (244, .iaload, 1, 245), (245, .aload_n 0, 1, 246), (246, .iload 4, 2, 248), (248, .iconst 3, 1, 249), (249, .iadd, 1, 250), (250, .iaload, 1, 251), (251, .invokevirtual 79, 3, 254), (254, .aload_n 2, 1, 255), (255, .aload_n 0, 1, 256), (256, .iload 4, 2, 258), (258, .iconst 1, 1, 259), (259, .iadd, 1, 260), (260, .iaload, 1, 261), (261, .aload_n 0, 1, 262), (262, .iload 4, 2, 264), (264, .iconst 2, 1, 265), (265, .iadd, 1, 266), (266, .iaload, 1, 267), (267, .aload_n 0, 1, 268), (268, .iload 4, 2, 270)]
theorem dt_Lw_law_1 : ev_dall m_Lw_law tb_Lw_law_1 := by decide +kernel
def tb_Lw_law_2 : ev_tab := [(270, .iconst 3, 1, 271), (271, .iadd, 1, 272), (272, .iaload, 1, 273), (273, .invokevirtual 82, 3, 276), (276, .if_icmp .eq 1208, 3, 279), (279, .iconst 0, 1, 280), (280, .ireturn, 1, 281), (281, .aload_n 1, 1, 282), (282, .aload_n 0, 1, 283), (283, .iload 4, 2, 285), (285, .iconst 1, 1, 286), (286, .iadd, 1, 287), (287, .iaload, 1, 288), (288, .invokevirtual 83, 3, 291), (291, .aload_n 2, 1, 292), (292, .aload_n 0, 1, 293), (293, .iload 4, 2, 295), (295, .iconst 1, 1, 296), (296, .iadd, 1, 297), (297, .iaload, 1, 298), (298, .invokevirtual 87, 3, 301), (301, .if_icmp .eq 1183, 3, 304), (304, .iconst 0, 1, 305), (305, .ireturn, 1, 306), (306, .aload_n 1, 1, 307), (307, .aload_n 0, 1, 308), (308, .iload 4, 2, 310), (310, .iconst 1, 1, 311), (311, .iadd, 1, 312), (312, .iaload, 1, 313), (313, .aload_n 0, 1, 314), (314, .iload 4, 2, 316), (316, .iconst 2, 1, 317), (317, .iadd, 1, 318), (318, .iaload, 1, 319), (319, .aload_n 3, 1, 320), (320, .invokestatic 88, 3, 323), (323, .istore 5, 2, 325), (325, .aload_n 2, 1, 326), (326, .aload_n 0, 1, 327), (327, .iload 4, 2, 329), (329, .iconst 1, 1, 330), (330, .iadd, 1, 331), (331, .iaload, 1, 332), (332, .aload_n 0, 1, 333), (333, .iload 4, 2, 335), (335, .iconst 2, 1, 336), (336, .iadd, 1, 337), (337, .iaload, 1, 338), (338, .invokevirtual 91, 3, 341), (341, .istore 6, 2, 343), (343, .aload_n 2, 1, 344), (344, .invokevirtual 75, 3, 347), (347, .iload 5, 2, 349), (349, .if_icmp .eq 5, 3, 352), (352, .iconst 0, 1, 353), (353, .ireturn, 1, 354), (354, .iload 5, 2, 356), (356, .ifCond .ne 15, 3, 359), (359, .aload_n 3, 1, 360)]
theorem dt_Lw_law_2 : ev_dall m_Lw_law tb_Lw_law_2 := by decide +kernel
def tb_Lw_law_3 : ev_tab := [(360, .iconst 0, 1, 361), (361, .laload, 1, 362), (362, .iload 6, 2, 364), (364, .i2l, 1, 365), (365, .lcmp, 1, 366), (366, .ifCond .eq 5, 3, 369), (369, .iconst 0, 1, 370), (370, .ireturn, 1, 371), (371, .goto 1113, 3, 374), (374, .aload_n 1, 1, 375), (375, .aload_n 0, 1, 376), (376, .iload 4, 2, 378), (378, .iconst 1, 1, 379), (379, .iadd, 1, 380), (380, .iaload, 1, 381), (381, .aload_n 0, 1, 382), (382, .iload 4, 2, 384), (384, .iconst 2, 1, 385), (385, .iadd, 1, 386), (386, .iaload, 1, 387), (387, .aload_n 0, 1, 388), (388, .iload 4, 2, 390), (390, .iconst 3, 1, 391), (391, .iadd, 1, 392), (392, .iaload, 1, 393), (393, .aload_n 0, 1, 394), (394, .iload 4, 2, 396), (396, .iconst 4, 1, 397), (397, .iadd, 1, 398), (398, .iaload, 1, 399), (399, .aload_n 3, 1, 400), (400, .invokestatic 92, 3, 403), (403, .istore 5, 2, 405), (405, .aload_n 2, 1, 406), (406, .aload_n 0, 1, 407), (407, .iload 4, 2, 409), (409, .iconst 1, 1, 410), (410, .iadd, 1, 411), (411, .iaload, 1, 412), (412, .aload_n 0, 1, 413), (413, .iload 4, 2, 415), (415, .iconst 2, 1, 416), (416, .iadd, 1, 417), (417, .iaload, 1, 418), (418, .aload_n 0, 1, 419), (419, .iload 4, 2, 421), (421, .iconst 3, 1, 422), (422, .iadd, 1, 423), (423, .iaload, 1, 424), (424, .aload_n 0, 1, 425), (425, .iload 4, 2, 427), (427, .iconst 4, 1, 428), (428, .iadd, 1, 429), (429, .iaload, 1, 430), (430, .invokevirtual 94, 3, 433), (433, .istore 6, 2, 435), (435, .aload_n 2, 1, 436), (436, .invokevirtual 75, 3, 439), (439, .iload 5, 2, 441), (441, .if_icmp .eq 5, 3, 444)]
theorem dt_Lw_law_3 : ev_dall m_Lw_law tb_Lw_law_3 := by decide +kernel
def tb_Lw_law_4 : ev_tab := [(444, .iconst 0, 1, 445), (445, .ireturn, 1, 446), (446, .iload 5, 2, 448), (448, .ifCond .ne 15, 3, 451), (451, .aload_n 3, 1, 452), (452, .iconst 0, 1, 453), (453, .laload, 1, 454), (454, .iload 6, 2, 456), (456, .i2l, 1, 457), (457, .lcmp, 1, 458), (458, .ifCond .eq 5, 3, 461), (461, .iconst 0, 1, 462), (462, .ireturn, 1, 463), (463, .goto 1021, 3, 466), (466, .aload_n 1, 1, 467), (467, .aload_n 0, 1, 468), (468, .iload 4, 2, 470), (470, .iconst 1, 1, 471), (471, .iadd, 1, 472), (472, .iaload, 1, 473), (473, .aload_n 0, 1, 474), (474, .iload 4, 2, 476), (476, .iconst 2, 1, 477), (477, .iadd, 1, 478), (478, .iaload, 1, 479), (479, .aload_n 0, 1, 480), (480, .iload 4, 2, 482), (482, .iconst 3, 1, 483), (483, .iadd, 1, 484), (484, .iaload, 1, 485), (485, .invokevirtual 95, 3, 488), (488, .aload_n 2, 1, 489), (489, .aload_n 0, 1, 490), (490, .iload 4, 2, 492), (492, .iconst 1, 1, 493), (493, .iadd, 1, 494), (494, .iaload, 1, 495), (495, .aload_n 0, 1, 496), (496, .iload 4, 2, 498), (498, .iconst 2, 1, 499), (499, .iadd, 1, 500), (500, .iaload, 1, 501), (501, .aload_n 0, 1, 502), (502, .iload 4, 2, 504), (504, .iconst 3, 1, 505), (505, .iadd, 1, 506), (506, .iaload, 1, 507), (507, .invokevirtual 98, 3, 510), (510, .if_icmp .eq 974, 3, 513), (513, .iconst 0, 1, 514), (514, .ireturn, 1, 515), (515, .aload_n 1, 1, 516), (516, .aload_n 0, 1, 517), (517, .iload 4, 2, 519), (519, .iconst 1, 1, 520), (520, .iadd, 1, 521), (521, .iaload, 1, 522), (522, .aload_n 0, 1, 523), (523, .iload 4, 2, 525), (525, .iconst 2, 1, 526)]
theorem dt_Lw_law_4 : ev_dall m_Lw_law tb_Lw_law_4 := by decide +kernel
def tb_Lw_law_5 : ev_tab := [(526, .iadd, 1, 527), (527, .iaload, 1, 528), (528, .aload_n 0, 1, 529), (529, .iload 4, 2, 531), (531, .iconst 3, 1, 532), (532, .iadd, 1, 533), (533, .iaload, 1, 534), (534, .aload_n 3, 1, 535), (535, .invokestatic 99, 3, 538), (538, .istore 5, 2, 540), (540, .aload_n 2, 1, 541), (541, .aload_n 0, 1, 542), (542, .iload 4, 2, 544), (544, .iconst 1, 1, 545), (545, .iadd, 1, 546), (546, .iaload, 1, 547), (547, .aload_n 0, 1, 548), (548, .iload 4, 2, 550), (550, .iconst 2, 1, 551), (551, .iadd, 1, 552), (552, .iaload, 1, 553), (553, .aload_n 0, 1, 554), (554, .iload 4, 2, 556), (556, .iconst 3, 1, 557), (557, .iadd, 1, 558), (558, .iaload, 1, 559), (559, .invokevirtual 102, 3, 562), (562, .istore 6, 2, 564), (564, .aload_n 2, 1, 565), (565, .invokevirtual 75, 3, 568), (568, .iload 5, 2, 570), (570, .if_icmp .eq 5, 3, 573), (573, .iconst 0, 1, 574), (574, .ireturn, 1, 575), (575, .iload 5, 2, 577), (577, .ifCond .ne 22, 3, 580), (580, .aload_n 3, 1, 581), (581, .iconst 0, 1, 582), (582, .laload, 1, 583), (583, .iload 6, 2, 585), (585, .ifCond .eq 7, 3, 588), (588, .lconst 1, 1, 589), (589, .goto 4, 3, 592), (592, .lconst 0, 1, 593), (593, .lcmp, 1, 594), (594, .ifCond .eq 5, 3, 597), (597, .iconst 0, 1, 598), (598, .ireturn, 1, 599), (599, .goto 885, 3, 602), (602, .aload_n 1, 1, 603), (603, .aload_n 0, 1, 604), (604, .iload 4, 2, 606), (606, .iconst 1, 1, 607), (607, .iadd, 1, 608), (608, .iaload, 1, 609), (609, .aload_n 0, 1, 610), (610, .iload 4, 2, 612), (612, .iconst 2, 1, 613), (613, .iadd, 1, 614), (614, .iaload, 1, 615)]
theorem dt_Lw_law_5 : ev_dall m_Lw_law tb_Lw_law_5 := by decide +kernel
def tb_Lw_law_6 : ev_tab := [(615, .aload_n 0, 1, 616), (616, .iload 4, 2, 618), (618, .iconst 3, 1, 619), (619, .iadd, 1, 620), (620, .iaload, 1, 621), (621, .aload_n 3, 1, 622), (622, .invokestatic 103, 3, 625), (625, .istore 5, 2, 627), (627, .aload_n 2, 1, 628), (628, .aload_n 0, 1, 629), (629, .iload 4, 2, 631), (631, .iconst 1, 1, 632), (632, .iadd, 1, 633), (633, .iaload, 1, 634), (634, .aload_n 0, 1, 635), (635, .iload 4, 2, 637), (637, .iconst 2, 1, 638), (638, .iadd, 1, 639), (639, .iaload, 1, 640), (640, .aload_n 0, 1, 641), (641, .iload 4, 2, 643), (643, .iconst 3, 1, 644), (644, .iadd, 1, 645), (645, .iaload, 1, 646), (646, .invokevirtual 105, 3, 649), (649, .istore 6, 2, 651), (651, .aload_n 2, 1, 652), (652, .invokevirtual 75, 3, 655), (655, .iload 5, 2, 657), (657, .if_icmp .eq 5, 3, 660), (660, .iconst 0, 1, 661), (661, .ireturn, 1, 662), (662, .iload 5, 2, 664), (664, .ifCond .ne 15, 3, 667), (667, .aload_n 3, 1, 668), (668, .iconst 0, 1, 669), (669, .laload, 1, 670), (670, .iload 6, 2, 672), (672, .i2l, 1, 673), (673, .lcmp, 1, 674), (674, .ifCond .eq 5, 3, 677), (677, .iconst 0, 1, 678), (678, .ireturn, 1, 679), (679, .goto 805, 3, 682), (682, .aload_n 1, 1, 683), (683, .aload_n 0, 1, 684), (684, .iload 4, 2, 686), (686, .iconst 1, 1, 687), (687, .iadd, 1, 688), (688, .iaload, 1, 689), (689, .aload_n 0, 1, 690), (690, .iload 4, 2, 692), (692, .iconst 2, 1, 693), (693, .iadd, 1, 694), (694, .iaload, 1, 695), (695, .aload_n 0, 1, 696), (696, .iload 4, 2, 698), (698, .iconst 3, 1, 699), (699, .iadd, 1, 700), (700, .iaload, 1, 701)]
theorem dt_Lw_law_6 : ev_dall m_Lw_law tb_Lw_law_6 := by decide +kernel
def tb_Lw_law_7 : ev_tab := [(701, .aload_n 3, 1, 702), (702, .invokestatic 106, 3, 705), (705, .istore 5, 2, 707), (707, .aload_n 2, 1, 708), (708, .aload_n 0, 1, 709), (709, .iload 4, 2, 711), (711, .iconst 1, 1, 712), (712, .iadd, 1, 713), (713, .iaload, 1, 714), (714, .aload_n 0, 1, 715), (715, .iload 4, 2, 717), (717, .iconst 2, 1, 718), (718, .iadd, 1, 719), (719, .iaload, 1, 720), (720, .aload_n 0, 1, 721), (721, .iload 4, 2, 723), (723, .iconst 3, 1, 724), (724, .iadd, 1, 725), (725, .iaload, 1, 726), (726, .invokevirtual 108, 3, 729), (729, .istore 6, 2, 731), (731, .aload_n 2, 1, 732), (732, .invokevirtual 75, 3, 735), (735, .iload 5, 2, 737), (737, .if_icmp .eq 5, 3, 740), (740, .iconst 0, 1, 741), (741, .ireturn, 1, 742), (742, .iload 5, 2, 744), (744, .ifCond .ne 15, 3, 747), (747, .aload_n 3, 1, 748), (748, .iconst 0, 1, 749), (749, .laload, 1, 750), (750, .iload 6, 2, 752), (752, .i2l, 1, 753), (753, .lcmp, 1, 754), (754, .ifCond .eq 5, 3, 757), (757, .iconst 0, 1, 758), (758, .ireturn, 1, 759), (759, .goto 725, 3, 762), (762, .aload_n 1, 1, 763), (763, .invokevirtual 109, 3, 766), (766, .aload_n 2, 1, 767), (767, .invokevirtual 112, 3, 770), (770, .goto 714, 3, 773), (773, .aload_n 1, 1, 774), (774, .aload_n 0, 1, 775), (775, .iload 4, 2, 777), (777, .iconst 1, 1, 778), (778, .iadd, 1, 779), (779, .iaload, 1, 780), (780, .aload_n 0, 1, 781), (781, .iload 4, 2, 783), (783, .iconst 2, 1, 784), (784, .iadd, 1, 785), (785, .iaload, 1, 786), (786, .aload_n 0, 1, 787), (787, .iload 4, 2, 789), (789, .iconst 3, 1, 790), (790, .iadd, 1, 791), (791, .iaload, 1, 792)]
theorem dt_Lw_law_7 : ev_dall m_Lw_law tb_Lw_law_7 := by decide +kernel
def tb_Lw_law_8 : ev_tab := [(792, .aload_n 3, 1, 793), (793, .invokestatic 113, 3, 796), (796, .istore 5, 2, 798), (798, .aload_n 2, 1, 799), (799, .aload_n 0, 1, 800), (800, .iload 4, 2, 802), (802, .iconst 1, 1, 803), (803, .iadd, 1, 804), (804, .iaload, 1, 805), (805, .aload_n 0, 1, 806), (806, .iload 4, 2, 808), (808, .iconst 2, 1, 809), (809, .iadd, 1, 810), (810, .iaload, 1, 811), (811, .aload_n 0, 1, 812), (812, .iload 4, 2, 814), (814, .iconst 3, 1, 815), (815, .iadd, 1, 816), (816, .iaload, 1, 817), (817, .invokevirtual 115, 3, 820), (820, .istore 6, 2, 822), (822, .aload_n 2, 1, 823), (823, .invokevirtual 75, 3, 826), (826, .iload 5, 2, 828), (828, .if_icmp .eq 5, 3, 831), (831, .iconst 0, 1, 832), (832, .ireturn, 1, 833), (833, .iload 5, 2, 835), (835, .ifCond .ne 15, 3, 838), (838, .aload_n 3, 1, 839), (839, .iconst 0, 1, 840), (840, .laload, 1, 841), (841, .iload 6, 2, 843), (843, .i2l, 1, 844), (844, .lcmp, 1, 845), (845, .ifCond .eq 5, 3, 848), (848, .iconst 0, 1, 849), (849, .ireturn, 1, 850), (850, .goto 634, 3, 853), (853, .aload_n 1, 1, 854), (854, .aload_n 0, 1, 855), (855, .iload 4, 2, 857), (857, .iconst 1, 1, 858), (858, .iadd, 1, 859), (859, .iaload, 1, 860), (860, .aload_n 3, 1, 861), (861, .invokestatic 116, 3, 864), (864, .istore 5, 2, 866), (866, .aload_n 2, 1, 867), (867, .aload_n 0, 1, 868), (868, .iload 4, 2, 870), (870, .iconst 1, 1, 871), (871, .iadd, 1, 872), (872, .iaload, 1, 873), (873, .invokevirtual 119, 3, 876), (876, .istore 6, 2, 878), (878, .aload_n 2, 1, 879), (879, .invokevirtual 75, 3, 882), (882, .iload 5, 2, 884), (884, .if_icmp .eq 5, 3, 887)]
theorem dt_Lw_law_8 : ev_dall m_Lw_law tb_Lw_law_8 := by decide +kernel
def tb_Lw_law_9 : ev_tab := [(887, .iconst 0, 1, 888), (888, .ireturn, 1, 889), (889, .iload 5, 2, 891), (891, .ifCond .ne 15, 3, 894), (894, .aload_n 3, 1, 895), (895, .iconst 0, 1, 896), (896, .laload, 1, 897), (897, .iload 6, 2, 899), (899, .i2l, 1, 900), (900, .lcmp, 1, 901), (901, .ifCond .eq 5, 3, 904), (904, .iconst 0, 1, 905), (905, .ireturn, 1, 906), (906, .goto 578, 3, 909), (909, .aload_n 1, 1, 910), (910, .aload_n 0, 1, 911), (911, .iload 4, 2, 913), (913, .iconst 1, 1, 914), (914, .iadd, 1, 915), (915, .iaload, 1, 916), (916, .aload_n 0, 1, 917), (917, .iload 4, 2, 919), (919, .iconst 2, 1, 920), (920, .iadd, 1, 921), (921, .iaload, 1, 922), (922, .aload_n 3, 1, 923), (923, .invokestatic 120, 3, 926), (926, .istore 5, 2, 928), (928, .aload_n 2, 1, 929), (929, .aload_n 0, 1, 930), (930, .iload 4, 2, 932), (932, .iconst 1, 1, 933), (933, .iadd, 1, 934), (934, .iaload, 1, 935), (935, .aload_n 0, 1, 936), (936, .iload 4, 2, 938), (938, .iconst 2, 1, 939), (939, .iadd, 1, 940), (940, .iaload, 1, 941), (941, .invokevirtual 122, 3, 944), (944, .istore 6, 2, 946), (946, .aload_n 2, 1, 947), (947, .invokevirtual 75, 3, 950), (950, .iload 5, 2, 952), (952, .if_icmp .eq 5, 3, 955), (955, .iconst 0, 1, 956), (956, .ireturn, 1, 957), (957, .iload 5, 2, 959), (959, .ifCond .ne 15, 3, 962), (962, .aload_n 3, 1, 963), (963, .iconst 0, 1, 964), (964, .laload, 1, 965), (965, .iload 6, 2, 967), (967, .i2l, 1, 968), (968, .lcmp, 1, 969), (969, .ifCond .eq 5, 3, 972), (972, .iconst 0, 1, 973), (973, .ireturn, 1, 974), (974, .goto 510, 3, 977), (977, .aload_n 1, 1, 978)]
theorem dt_Lw_law_9 : ev_dall m_Lw_law tb_Lw_law_9 := by decide +kernel
def tb_Lw_law_10 : ev_tab := [(978, .aload_n 0, 1, 979), (979, .iload 4, 2, 981), (981, .iconst 1, 1, 982), (982, .iadd, 1, 983), (983, .iaload, 1, 984), (984, .aload_n 0, 1, 985), (985, .iload 4, 2, 987), (987, .iconst 2, 1, 988), (988, .iadd, 1, 989), (989, .iaload, 1, 990), (990, .aload_n 3, 1, 991), (991, .invokestatic 123, 3, 994), (994, .istore 5, 2, 996), (996, .aload_n 2, 1, 997), (997, .aload_n 0, 1, 998), (998, .iload 4, 2, 1000), (1000, .iconst 1, 1, 1001), (1001, .iadd, 1, 1002), (1002, .iaload, 1, 1003), (1003, .aload_n 0, 1, 1004), (1004, .iload 4, 2, 1006), (1006, .iconst 2, 1, 1007), (1007, .iadd, 1, 1008), (1008, .iaload, 1, 1009), (1009, .invokevirtual 125, 3, 1012), (1012, .istore 6, 2, 1014), (1014, .aload_n 2, 1, 1015), (1015, .invokevirtual 75, 3, 1018), (1018, .iload 5, 2, 1020), (1020, .if_icmp .eq 5, 3, 1023), (1023, .iconst 0, 1, 1024), (1024, .ireturn, 1, 1025), (1025, .iload 5, 2, 1027), (1027, .ifCond .ne 15, 3, 1030), (1030, .aload_n 3, 1, 1031), (1031, .iconst 0, 1, 1032), (1032, .laload, 1, 1033), (1033, .iload 6, 2, 1035), (1035, .i2l, 1, 1036), (1036, .lcmp, 1, 1037), (1037, .ifCond .eq 5, 3, 1040), (1040, .iconst 0, 1, 1041), (1041, .ireturn, 1, 1042), (1042, .goto 442, 3, 1045), (1045, .aload_n 1, 1, 1046), (1046, .aload_n 0, 1, 1047), (1047, .iload 4, 2, 1049), (1049, .iconst 1, 1, 1050), (1050, .iadd, 1, 1051), (1051, .iaload, 1, 1052), (1052, .aload_n 0, 1, 1053), (1053, .iload 4, 2, 1055), (1055, .iconst 2, 1, 1056), (1056, .iadd, 1, 1057), (1057, .iaload, 1, 1058), (1058, .aload_n 3, 1, 1059), (1059, .invokestatic 126, 3, 1062), (1062, .istore 5, 2, 1064), (1064, .aload_n 2, 1, 1065), (1065, .aload_n 0, 1, 1066)]
theorem dt_Lw_law_10 : ev_dall m_Lw_law tb_Lw_law_10 := by decide +kernel
def tb_Lw_law_11 : ev_tab := [(1066, .iload 4, 2, 1068), (1068, .iconst 1, 1, 1069), (1069, .iadd, 1, 1070), (1070, .iaload, 1, 1071), (1071, .aload_n 0, 1, 1072), (1072, .iload 4, 2, 1074), (1074, .iconst 2, 1, 1075), (1075, .iadd, 1, 1076), (1076, .iaload, 1, 1077), (1077, .invokevirtual 128, 3, 1080), (1080, .istore 6, 2, 1082), (1082, .aload_n 2, 1, 1083), (1083, .invokevirtual 75, 3, 1086), (1086, .iload 5, 2, 1088), (1088, .if_icmp .eq 5, 3, 1091), (1091, .iconst 0, 1, 1092), (1092, .ireturn, 1, 1093), (1093, .iload 5, 2, 1095), (1095, .ifCond .ne 15, 3, 1098), (1098, .aload_n 3, 1, 1099), (1099, .iconst 0, 1, 1100), (1100, .laload, 1, 1101), (1101, .iload 6, 2, 1103), (1103, .i2l, 1, 1104), (1104, .lcmp, 1, 1105), (1105, .ifCond .eq 5, 3, 1108), (1108, .iconst 0, 1, 1109), (1109, .ireturn, 1, 1110), (1110, .goto 374, 3, 1113), (1113, .aload_n 1, 1, 1114), (1114, .aload_n 0, 1, 1115), (1115, .iload 4, 2, 1117), (1117, .iconst 1, 1, 1118), (1118, .iadd, 1, 1119), (1119, .iaload, 1, 1120), (1120, .invokevirtual 129, 3, 1123), (1123, .aload_n 2, 1, 1124), (1124, .aload_n 0, 1, 1125), (1125, .iload 4, 2, 1127), (1127, .iconst 1, 1, 1128), (1128, .iadd, 1, 1129), (1129, .iaload, 1, 1130), (1130, .invokevirtual 132, 3, 1133), (1133, .if_icmp .eq 351, 3, 1136), (1136, .iconst 0, 1, 1137), (1137, .ireturn, 1, 1138), (1138, .aload_n 1, 1, 1139), (1139, .aload_n 0, 1, 1140), (1140, .iload 4, 2, 1142), (1142, .iconst 1, 1, 1143), (1143, .iadd, 1, 1144), (1144, .iaload, 1, 1145), (1145, .aload_n 0, 1, 1146), (1146, .iload 4, 2, 1148), (1148, .iconst 2, 1, 1149), (1149, .iadd, 1, 1150), (1150, .iaload, 1, 1151), (1151, .aload_n 0, 1, 1152), (1152, .iload 4, 2, 1154), (1154, .iconst 3, 1, 1155)]
theorem dt_Lw_law_11 : ev_dall m_Lw_law tb_Lw_law_11 := by decide +kernel
def tb_Lw_law_12 : ev_tab := [(1155, .iadd, 1, 1156), (1156, .iaload, 1, 1157), (1157, .aload_n 0, 1, 1158), (1158, .iload 4, 2, 1160), (1160, .iconst 4, 1, 1161), (1161, .iadd, 1, 1162), (1162, .iaload, 1, 1163), (1163, .aload_n 3, 1, 1164), (1164, .invokestatic 133, 3, 1167), (1167, .istore 5, 2, 1169), (1169, .aload_n 2, 1, 1170), (1170, .aload_n 0, 1, 1171), (1171, .iload 4, 2, 1173), (1173, .iconst 1, 1, 1174), (1174, .iadd, 1, 1175), (1175, .iaload, 1, 1176), (1176, .aload_n 0, 1, 1177), (1177, .iload 4, 2, 1179), (1179, .iconst 2, 1, 1180), (1180, .iadd, 1, 1181), (1181, .iaload, 1, 1182), (1182, .aload_n 0, 1, 1183), (1183, .iload 4, 2, 1185), (1185, .iconst 3, 1, 1186), (1186, .iadd, 1, 1187), (1187, .iaload, 1, 1188), (1188, .aload_n 0, 1, 1189), (1189, .iload 4, 2, 1191), (1191, .iconst 4, 1, 1192), (1192, .iadd, 1, 1193), (1193, .iaload, 1, 1194), (1194, .invokevirtual 135, 3, 1197), (1197, .istore 6, 2, 1199), (1199, .aload_n 2, 1, 1200), (1200, .invokevirtual 75, 3, 1203), (1203, .iload 5, 2, 1205), (1205, .if_icmp .eq 5, 3, 1208), (1208, .iconst 0, 1, 1209), (1209, .ireturn, 1, 1210), (1210, .iload 5, 2, 1212), (1212, .ifCond .ne 15, 3, 1215), (1215, .aload_n 3, 1, 1216), (1216, .iconst 0, 1, 1217), (1217, .laload, 1, 1218), (1218, .iload 6, 2, 1220), (1220, .i2l, 1, 1221), (1221, .lcmp, 1, 1222), (1222, .ifCond .eq 5, 3, 1225), (1225, .iconst 0, 1, 1226), (1226, .ireturn, 1, 1227), (1227, .goto 257, 3, 1230), (1230, .aload_n 1, 1, 1231), (1231, .aload_n 0, 1, 1232), (1232, .iload 4, 2, 1234), (1234, .iconst 1, 1, 1235), (1235, .iadd, 1, 1236), (1236, .iaload, 1, 1237), (1237, .aload_n 0, 1, 1238), (1238, .iload 4, 2, 1240), (1240, .iconst 2, 1, 1241)]
theorem dt_Lw_law_12 : ev_dall m_Lw_law tb_Lw_law_12 := by decide +kernel
def tb_Lw_law_13 : ev_tab := [(1241, .iadd, 1, 1242), (1242, .iaload, 1, 1243), (1243, .aload_n 3, 1, 1244), (1244, .invokestatic 136, 3, 1247), (1247, .istore 5, 2, 1249), (1249, .aload_n 2, 1, 1250), (1250, .aload_n 0, 1, 1251), (1251, .iload 4, 2, 1253), (1253, .iconst 1, 1, 1254), (1254, .iadd, 1, 1255), (1255, .iaload, 1, 1256), (1256, .aload_n 0, 1, 1257), (1257, .iload 4, 2, 1259), (1259, .iconst 2, 1, 1260), (1260, .iadd, 1, 1261), (1261, .iaload, 1, 1262), (1262, .invokevirtual 138, 3, 1265), (1265, .istore 6, 2, 1267), (1267, .aload_n 2, 1, 1268), (1268, .invokevirtual 75, 3, 1271), (1271, .iload 5, 2, 1273), (1273, .if_icmp .eq 5, 3, 1276), (1276, .iconst 0, 1, 1277), (1277, .ireturn, 1, 1278), (1278, .iload 5, 2, 1280), (1280, .ifCond .ne 15, 3, 1283), (1283, .aload_n 3, 1, 1284), (1284, .iconst 0, 1, 1285), (1285, .laload, 1, 1286), (1286, .iload 6, 2, 1288), (1288, .i2l, 1, 1289), (1289, .lcmp, 1, 1290), (1290, .ifCond .eq 5, 3, 1293), (1293, .iconst 0, 1, 1294), (1294, .ireturn, 1, 1295), (1295, .goto 189, 3, 1298), (1298, .aload_n 1, 1, 1299), (1299, .aload_n 0, 1, 1300), (1300, .iload 4, 2, 1302), (1302, .iconst 1, 1, 1303), (1303, .iadd, 1, 1304), (1304, .iaload, 1, 1305), (1305, .aload_n 0, 1, 1306), (1306, .iload 4, 2, 1308), (1308, .iconst 2, 1, 1309), (1309, .iadd, 1, 1310), (1310, .iaload, 1, 1311), (1311, .aload_n 0, 1, 1312), (1312, .iload 4, 2, 1314), (1314, .iconst 3, 1, 1315), (1315, .iadd, 1, 1316), (1316, .iaload, 1, 1317), (1317, .invokevirtual 139, 3, 1320), (1320, .aload_n 2, 1, 1321), (1321, .aload_n 0, 1, 1322), (1322, .iload 4, 2, 1324), (1324, .iconst 1, 1, 1325), (1325, .iadd, 1, 1326), (1326, .iaload, 1, 1327), (1327, .aload_n 0, 1, 1328)]
theorem dt_Lw_law_13 : ev_dall m_Lw_law tb_Lw_law_13 := by decide +kernel
def tb_Lw_law_14 : ev_tab := [(1328, .iload 4, 2, 1330), (1330, .iconst 2, 1, 1331), (1331, .iadd, 1, 1332), (1332, .iaload, 1, 1333), (1333, .aload_n 0, 1, 1334), (1334, .iload 4, 2, 1336), (1336, .iconst 3, 1, 1337), (1337, .iadd, 1, 1338), (1338, .iaload, 1, 1339), (1339, .invokevirtual 142, 3, 1342), (1342, .if_icmp .eq 142, 3, 1345), (1345, .iconst 0, 1, 1346), (1346, .ireturn, 1, 1347), (1347, .aload_n 1, 1, 1348), (1348, .aload_n 0, 1, 1349), (1349, .iload 4, 2, 1351), (1351, .iconst 1, 1, 1352), (1352, .iadd, 1, 1353), (1353, .iaload, 1, 1354), (1354, .invokevirtual 143, 3, 1357), (1357, .aload_n 2, 1, 1358), (1358, .aload_n 0, 1, 1359), (1359, .iload 4, 2, 1361), (1361, .iconst 1, 1, 1362), (1362, .iadd, 1, 1363), (1363, .iaload, 1, 1364), (1364, .invokevirtual 146, 3, 1367), (1367, .if_icmp .eq 117, 3, 1370), (1370, .iconst 0, 1, 1371), (1371, .ireturn, 1, 1372), (1372, .aload_n 1, 1, 1373), (1373, .aload_n 0, 1, 1374), (1374, .iload 4, 2, 1376), (1376, .iconst 1, 1, 1377), (1377, .iadd, 1, 1378), (1378, .iaload, 1, 1379), (1379, .aload_n 3, 1, 1380), (1380, .invokestatic 147, 3, 1383), (1383, .istore 5, 2, 1385), (1385, .aload_n 2, 1, 1386), (1386, .aload_n 0, 1, 1387), (1387, .iload 4, 2, 1389), (1389, .iconst 1, 1, 1390), (1390, .iadd, 1, 1391), (1391, .iaload, 1, 1392), (1392, .invokevirtual 149, 3, 1395), (1395, .istore 6, 2, 1397), (1397, .aload_n 2, 1, 1398), (1398, .invokevirtual 75, 3, 1401), (1401, .iload 5, 2, 1403), (1403, .if_icmp .eq 5, 3, 1406), (1406, .iconst 0, 1, 1407), (1407, .ireturn, 1, 1408), (1408, .iload 5, 2, 1410), (1410, .ifCond .ne 15, 3, 1413), (1413, .aload_n 3, 1, 1414), (1414, .iconst 0, 1, 1415), (1415, .laload, 1, 1416), (1416, .iload 6, 2, 1418), (1418, .i2l, 1, 1419)]
theorem dt_Lw_law_14 : ev_dall m_Lw_law tb_Lw_law_14 := by decide +kernel
def tb_Lw_law_15 : ev_tab := [(1419, .lcmp, 1, 1420), (1420, .ifCond .eq 5, 3, 1423), (1423, .iconst 0, 1, 1424), (1424, .ireturn, 1, 1425), (1425, .goto 59, 3, 1428), (1428, .aload_n 1, 1, 1429), (1429, .aload_n 0, 1, 1430), (1430, .iload 4, 2, 1432), (1432, .iconst 1, 1, 1433), (1433, .iadd, 1, 1434), (1434, .iaload, 1, 1435), (1435, .aload_n 3, 1, 1436), (1436, .invokestatic 150, 3, 1439), (1439, .istore 5, 2, 1441), (1441, .aload_n 2, 1, 1442), (1442, .aload_n 0, 1, 1443), (1443, .iload 4, 2, 1445), (1445, .iconst 1, 1, 1446), (1446, .iadd, 1, 1447), (1447, .iaload, 1, 1448), (1448, .invokevirtual 152, 3, 1451), (1451, .istore 6, 2, 1453), (1453, .aload_n 2, 1, 1454), (1454, .invokevirtual 75, 3, 1457), (1457, .iload 5, 2, 1459), (1459, .if_icmp .eq 5, 3, 1462), (1462, .iconst 0, 1, 1463), (1463, .ireturn, 1, 1464), (1464, .iload 5, 2, 1466), (1466, .ifCond .ne 15, 3, 1469), (1469, .aload_n 3, 1, 1470), (1470, .iconst 0, 1, 1471), (1471, .laload, 1, 1472), (1472, .iload 6, 2, 1474), (1474, .i2l, 1, 1475), (1475, .lcmp, 1, 1476), (1476, .ifCond .eq 5, 3, 1479), (1479, .iconst 0, 1, 1480), (1480, .ireturn, 1, 1481), (1481, .goto 3, 3, 1484), (1484, .iinc 4 5, 3, 1487), (1487, .goto (-1464), 3, 1490), (1490, .iconst 1, 1, 1491), (1491, .ireturn, 1, 1492)]
theorem dt_Lw_law_15 : ev_dall m_Lw_law tb_Lw_law_15 := by decide +kernel
end
section
/-! Bits of masks. The family bt is pasted from kit/laws/BITS.to-paste. -/
/-! ===== Int32 by its bits: bt x i ===== -/
def bt (x : Int32) (i : Nat) : Bool := x.toBitVec.getLsbD i
theorem b_ext {x y : Int32} (h : ∀ i, i < 32 → bt x i = bt y i) : x = y := Int32.toBitVec_inj.mp (BitVec.eq_of_getLsbD_eq (fun i hi => h i hi))
theorem b_or (x y : Int32) (i : Nat) : bt (x ||| y) i = (bt x i || bt y i) := by unfold bt; rw [Int32.toBitVec_or, BitVec.getLsbD_or]
theorem b_and (x y : Int32) (i : Nat) : bt (x &&& y) i = (bt x i && bt y i) := by unfold bt; rw [Int32.toBitVec_and, BitVec.getLsbD_and]
theorem b_xor (x y : Int32) (i : Nat) : bt (x ^^^ y) i = (bt x i ^^ bt y i) := by unfold bt; rw [Int32.toBitVec_xor, BitVec.getLsbD_xor]
theorem b_big {x : Int32} {i : Nat} (h : 32 ≤ i) : bt x i = false := BitVec.getLsbD_of_ge _ _ h
theorem b_m1 : ∀ i, i < 32 → bt (-1) i = true := by decide +kernel
theorem b_0 (i : Nat) : bt 0 i = false := BitVec.getLsbD_zero
theorem s_l : ∀ n, n < 32 → ((nI n &&& 31).toBitVec.smod 32).toNat = n := by decide +kernel
theorem b_shl (n : Nat) (hn : n < 32) (x : Int32) {i : Nat} (hi : i < 32) : bt (x <<< (nI n &&& 31)) i = (decide (n ≤ i) && bt x (i - n)) := by
  unfold bt
  rw [Int32.toBitVec_shiftLeft]
  show (x.toBitVec <<< ((nI n &&& 31).toBitVec.smod 32).toNat).getLsbD i = _
  rw [s_l n hn, BitVec.getLsbD_shiftLeft]
  rcases Nat.lt_or_ge i n with h | h
  · simp [h, Nat.not_le.mpr h]
  · simp [hi, h, Nat.not_lt.mpr h]
theorem b_sshr (n : Nat) (hn : n < 32) (x : Int32) {i : Nat} (hi : i < 32) : bt (x >>> (nI n &&& 31)) i = if n + i < 32 then bt x (n + i) else bt x 31 := by
  unfold bt
  rw [Int32.toBitVec_shiftRight]
  show (x.toBitVec.sshiftRight ((nI n &&& 31).toBitVec.smod 32).toNat).getLsbD i = _
  rw [s_l n hn, BitVec.getLsbD_sshiftRight, BitVec.msb_eq_getLsbD_last]
  simp [hi]
theorem q_one (i : Nat) : bt (nI 1) i = decide (i = 0) := by
  rcases Nat.lt_or_ge i 32 with h | h
  · exact (by decide +kernel : ∀ i, i < 32 → bt (nI 1) i = decide (i = 0)) i h
  · rw [b_big h, decide_eq_false (by omega)]
/-- one bit -/
theorem q_sh1 {n i : Nat} (hn : n < 32) (hi : i < 32) : bt (nI 1 <<< (nI n &&& 31)) i = decide (i = n) := by
  rw [b_shl n hn _ hi, q_one]
  by_cases h : i = n
  · subst h
    simp
  · rw [decide_eq_false h]
    by_cases h2 : n ≤ i
    · rw [decide_eq_false (by omega : ¬ i - n = 0), Bool.and_false]
    · rw [decide_eq_false h2, Bool.false_and]
/-- is the bit there -/
theorem q_tst {m : Int32} {i : Nat} (hi : i < 32) : (m >>> (nI i &&& 31)) &&& nI 1 = nI 1 ↔ bt m i = true := by
  constructor
  · intro h
    have h1 := congrArg (fun z => bt z 0) h
    simp only [b_and, q_one] at h1
    rw [b_sshr i hi m (by omega), if_pos (by omega)] at h1
    simpa using h1
  · intro h
    refine b_ext fun j hj => ?_
    rw [b_and, q_one]
    by_cases h0 : j = 0
    · subst h0
      rw [b_sshr i hi m (by omega), if_pos (by omega), Nat.add_zero, h]
      rfl
    · rw [decide_eq_false h0, Bool.and_false]
theorem q_zero {m : Int32} : m = nI 0 ↔ ∀ i, i < 32 → bt m i = false := by
  constructor
  · rintro rfl i hi
    rw [nI_0]
    exact b_0 i
  · intro h
    refine b_ext fun i hi => ?_
    rw [h i hi, nI_0, b_0]
theorem q_not (m : Int32) {i : Nat} (hi : i < 32) : bt (m ^^^ (-1)) i = !bt m i := by
  rw [b_xor, b_m1 i hi]
  cases bt m i <;> rfl
theorem q_0 (i : Nat) : bt (nI 0) i = false := by rw [nI_0]; exact b_0 i
/-! Counting. -/
def cnt (f : Nat → Bool) : Nat → Nat
  | 0 => 0
  | n + 1 => cnt f n + (if f n = true then 1 else 0)
theorem cnt_le (f : Nat → Bool) : ∀ n, cnt f n ≤ n
  | 0 => Nat.le_refl _
  | n + 1 => by
    have := cnt_le f n
    simp only [cnt]
    split <;> omega
theorem cnt_mono {f g : Nat → Bool} : ∀ n, (∀ i, i < n → f i = true → g i = true) → cnt f n ≤ cnt g n
  | 0, _ => Nat.le_refl _
  | n + 1, h => by
    have h1 := cnt_mono n (fun i hi => h i (by omega))
    simp only [cnt]
    by_cases hf : f n = true
    · rw [if_pos hf, if_pos (h n (by omega) hf)]
      omega
    · rw [if_neg hf]
      split <;> omega
theorem cnt_lt {f g : Nat → Bool} : ∀ n, (∀ i, i < n → f i = true → g i = true) → ∀ k, k < n → g k = true → f k = false → cnt f n < cnt g n
  | 0, _, k, hk, _, _ => absurd hk (Nat.not_lt_zero _)
  | n + 1, h, k, hk, hg, hf => by
    simp only [cnt]
    by_cases hkn : k = n
    · subst hkn
      have h1 := cnt_mono (f := f) (g := g) k (fun i hi => h i (by omega))
      rw [if_pos hg, hf]
      simp only [Bool.false_eq_true, if_false]
      omega
    · have h1 := cnt_lt (f := f) (g := g) n (fun i hi => h i (by omega)) k (by omega) hg hf
      by_cases hfn : f n = true
      · rw [if_pos hfn, if_pos (h n (by omega) hfn)]
        omega
      · rw [if_neg hfn]
        split <;> omega
theorem cnt_congr {f g : Nat → Bool} : ∀ n, (∀ i, i < n → f i = g i) → cnt f n = cnt g n
  | 0, _ => rfl
  | n + 1, h => by
    simp only [cnt]
    rw [cnt_congr n (fun i hi => h i (by omega)), h n (by omega)]
end
section
/-! What nodes say: 0 NEITHER, 1 BETTER, 2 WORSE, 3 SAME, as Fin 4. -/
def jn (k : Nat) (a b : Fin 4) : Fin 4 :=
  if k = 9 then (if a = 1 then 2 else if a = 2 then 1 else a) else if k = 7 then (if a = 3 then b else a) else if k = 6 then (if a = 3 then b else if b = 3 then a else if a = b then a else 0) else if a = b then a else 0
def fl (a : Fin 4) : Fin 4 := if a = 1 then 2 else if a = 2 then 1 else a
theorem jn_cases (k : Nat) : jn k = jn 9 ∨ jn k = jn 7 ∨ jn k = jn 6 ∨ jn k = jn 8 := by
  by_cases h9 : k = 9
  · subst h9; exact Or.inl rfl
  by_cases h7 : k = 7
  · subst h7; exact Or.inr (Or.inl rfl)
  by_cases h6 : k = 6
  · subst h6; exact Or.inr (Or.inr (Or.inl rfl))
  refine Or.inr (Or.inr (Or.inr ?_))
  funext a b
  simp [jn, h9, h7, h6]
theorem jn_fl (k : Nat) : ∀ a b : Fin 4, jn k (fl a) (fl b) = fl (jn k a b) := by
  rcases jn_cases k with h | h | h | h <;> rw [h] <;> decide
theorem jn_same (k : Nat) : ∀ a b : Fin 4, jn k a b = 3 → a = 3 ∧ (k ≠ 9 → b = 3) := by
  by_cases h9 : k = 9
  · subst h9
    intro a b h
    exact ⟨by revert a b; decide, fun q => absurd rfl q⟩
  · intro a b h
    have : a = 3 ∧ b = 3 := by
      by_cases h7 : k = 7
      · subst h7; revert a b; decide
      by_cases h6 : k = 6
      · subst h6; revert a b; decide
      have e : jn k = jn 8 := by funext a b; simp [jn, h9, h7, h6]
      rw [e] at h
      revert a b; decide
    exact ⟨this.1, fun _ => this.2⟩
/-- better than: what is better, joined (a, b: of u and v; a', b': of v and w; a2, b2: of u and w) -/
theorem jn_trans (k : Nat) (a b a' b' a2 b2 : Fin 4) (t1 : a = 1 → a' = 1 → a2 = 1) (t2 : a = 2 → a' = 2 → a2 = 2) (t3 : a = 3 → a2 = a') (t4 : a' = 3 → a2 = a) (u1 : b = 1 → b' = 1 → b2 = 1) (u3 : b = 3 → b2 = b') (u4 : b' = 3 → b2 = b)
    (h1 : jn k a b = 1) (h2 : jn k a' b' = 1) : jn k a2 b2 = 1 := by
  rcases jn_cases k with h | h | h | h <;> rw [h] at h1 h2 ⊢ <;> revert a b a' b' a2 b2 <;> decide
theorem jn_trans2 (k : Nat) (a b a' b' a2 b2 : Fin 4) (t1 : a = 1 → a' = 1 → a2 = 1) (t2 : a = 2 → a' = 2 → a2 = 2) (t3 : a = 3 → a2 = a') (t4 : a' = 3 → a2 = a) (u1 : b = 2 → b' = 2 → b2 = 2) (u3 : b = 3 → b2 = b') (u4 : b' = 3 → b2 = b)
    (h1 : jn k a b = 2) (h2 : jn k a' b' = 2) : jn k a2 b2 = 2 := by
  rcases jn_cases k with h | h | h | h <;> rw [h] at h1 h2 ⊢ <;> revert a b a' b' a2 b2 <;> decide
/-- orders and terms: kind, column, left, right, layers, reach -/
abbrev nod : Type := (Nat → Nat) × (Nat → Nat) × (Nat → Int32) × (Nat → Int32) × (Nat → Nat → Int32) × (Nat → Nat → Int32)
abbrev nK (N : nod) : Nat → Nat := N.1
abbrev nC (N : nod) : Nat → Nat := N.2.1
abbrev nA (N : nod) : Nat → Int32 := N.2.2.1
abbrev nB (N : nod) : Nat → Int32 := N.2.2.2.1
abbrev nY (N : nod) : Nat → Nat → Int32 := N.2.2.2.2.1
abbrev nR (N : nod) : Nat → Nat → Int32 := N.2.2.2.2.2
def nL (N : nod) (n : Nat) : Nat := (nA N n).toNatClampNeg
def nQ (N : nod) (n : Nat) : Nat := (nB N n).toNatClampNeg
/-- the distance of x from what lies between lo and hi -/
def dst (lo hi x : Int) : Int := if x < lo then lo - x else if hi < x then x - hi else 0
def gr (x : Int32) : Bool := decide (0 ≤ x) && decide (x < nI 10)
def lyr (f : Nat → Int32) (x : Int32) : Int32 := if gr x = true then f x.toNatClampNeg else -1
/-- x is better than y in the order n -/
def pf (N : nod) (n : Nat) (x y : Int32) : Bool :=
  if nK N n = 0 then decide (x < y) else if nK N n = 1 then decide (y < x)
  else if nK N n = 4 then decide (lyr (nY N n) x ≠ -1) && (decide (lyr (nY N n) y = -1) || decide (lyr (nY N n) x < lyr (nY N n) y))
  else if nK N n = 5 then gr x && gr y && bt (nR N n x.toNatClampNeg) y.toNatClampNeg
  else decide (dst (nA N n).toInt (if nK N n = 2 then nA N n else nB N n).toInt x.toInt < dst (nA N n).toInt (if nK N n = 2 then nA N n else nB N n).toInt y.toInt)
def so (N : nod) (n : Nat) (x y : Int32) : Fin 4 := if x = y then 3 else if pf N n x y = true then 1 else if pf N n y x = true then 2 else 0
def say (N : nod) (u v : Nat → Int32) (n : Nat) : Fin 4 :=
  if nK N n < 6 then so N n (u (nC N n)) (v (nC N n)) else if _h : nL N n < n ∧ nQ N n < n then jn (nK N n) (say N u v (nL N n)) (say N u v (nQ N n)) else 0
termination_by n
decreasing_by all_goals omega
theorem say_o {N : nod} {u v : Nat → Int32} {n : Nat} (h : nK N n < 6) : say N u v n = so N n (u (nC N n)) (v (nC N n)) := by rw [say, if_pos h]
theorem say_t {N : nod} {u v : Nat → Int32} {n : Nat} (h : ¬ nK N n < 6) (hc : nL N n < n ∧ nQ N n < n) : say N u v n = jn (nK N n) (say N u v (nL N n)) (say N u v (nQ N n)) := by rw [say, if_neg h, dif_pos hc]
/-- the reach of a graph is closed and has no circle -/
def okR (f : Nat → Int32) : Prop := (∀ x, x < 10 → bt (f x) x = false) ∧ ∀ x y z, x < 10 → y < 10 → z < 10 → bt (f x) y = true → bt (f y) z = true → bt (f x) z = true
/-- orders are orders; terms are made of earlier nodes -/
def okN (N : nod) (c : Nat) : Prop := (∀ n, n < c → okR (nR N n)) ∧ (∀ n, n < c → ¬ nK N n < 6 → nL N n < n ∧ nQ N n < n)
theorem gr_of {x : Int32} (h : gr x = true) : x.toNatClampNeg < 10 ∧ x = nI x.toNatClampNeg := by
  simp only [gr, Bool.and_eq_true, decide_eq_true_eq] at h
  obtain ⟨j, hj, rfl⟩ := nI_of (x := x) (Int32.not_lt.mpr h.1)
  have h2 := (nI_ltI hj (by omega)).mp h.2
  rw [nI_clamp hj]
  exact ⟨h2, rfl⟩
theorem gr_nI {j : Nat} (h : j < 10) : gr (nI j) = true := by
  simp only [gr, Bool.and_eq_true, decide_eq_true_eq]
  exact ⟨nI_pos' (by omega), nI_lt h (by omega)⟩
theorem pf_irr {N : nod} {n : Nat} (ho : okR (nR N n)) (x : Int32) : pf N n x x = false := by
  unfold pf
  split
  · exact decide_eq_false (Int32.lt_irrefl x)
  split
  · exact decide_eq_false (Int32.lt_irrefl x)
  split
  · by_cases h : lyr (nY N n) x = -1
    · simp [h]
    · simp [h, Int32.lt_irrefl]
  split
  · by_cases h : gr x = true
    · rw [ho.1 _ (gr_of h).1]; simp
    · simp [h]
  · exact decide_eq_false (Int.lt_irrefl _)
theorem pf_tr {N : nod} {n : Nat} (ho : okR (nR N n)) {x y z : Int32} (h1 : pf N n x y = true) (h2 : pf N n y z = true) : pf N n x z = true := by
  unfold pf at h1 h2 ⊢
  split at h1
  · rename_i hk
    simp only [hk, if_true, decide_eq_true_eq] at h1 h2 ⊢
    exact Int32.lt_trans h1 h2
  rename_i hk0
  rw [if_neg hk0] at h2 ⊢
  split at h1
  · rename_i hk
    simp only [hk, if_true, decide_eq_true_eq] at h1 h2 ⊢
    exact Int32.lt_trans h2 h1
  rename_i hk1
  rw [if_neg hk1] at h2 ⊢
  split at h1
  · rename_i hk
    rw [if_pos hk] at h2 ⊢
    simp only [Bool.and_eq_true, Bool.or_eq_true, decide_eq_true_eq] at h1 h2 ⊢
    refine ⟨h1.1, ?_⟩
    rcases h1.2 with h | h
    · exact absurd h h2.1
    · rcases h2.2 with g | g
      · exact Or.inl g
      · exact Or.inr (Int32.lt_trans h g)
  rename_i hk4
  rw [if_neg hk4] at h2 ⊢
  split at h1
  · rename_i hk
    rw [if_pos hk] at h2 ⊢
    simp only [Bool.and_eq_true] at h1 h2 ⊢
    exact ⟨⟨h1.1.1, h2.1.2⟩, ho.2 _ _ _ (gr_of h1.1.1).1 (gr_of h1.1.2).1 (gr_of h2.1.2).1 h1.2 h2.2⟩
  · rename_i hk
    rw [if_neg hk] at h2 ⊢
    simp only [decide_eq_true_eq] at h1 h2 ⊢
    omega
theorem pf_asym {N : nod} {n : Nat} (ho : okR (nR N n)) {x y : Int32} (h : pf N n x y = true) : pf N n y x = false := by
  cases h2 : pf N n y x with
  | false => rfl
  | true =>
    have := pf_tr ho h h2
    rw [pf_irr ho] at this
    cases this
theorem so_fl {N : nod} {n : Nat} (ho : okR (nR N n)) (x y : Int32) : so N n y x = fl (so N n x y) := by
  unfold so
  by_cases h : x = y
  · subst h; simp; decide
  · rw [if_neg h, if_neg (Ne.symm h)]
    by_cases h1 : pf N n x y = true
    · rw [if_pos h1, if_neg (by rw [pf_asym ho h1]; decide), if_pos h1]; decide
    · rw [if_neg h1]
      by_cases h2 : pf N n y x = true
      · rw [if_pos h2, if_pos h2]; decide
      · rw [if_neg h2, if_neg h2, if_neg h1]; decide
theorem so_3 {N : nod} {n : Nat} {x y : Int32} (h : so N n x y = 3) : x = y := by
  unfold so at h
  by_cases e : x = y
  · exact e
  · rw [if_neg e] at h
    split at h
    · exact absurd h (by decide)
    · split at h
      · exact absurd h (by decide)
      · exact absurd h (by decide)
theorem so_1 {N : nod} {n : Nat} {x y : Int32} (h : so N n x y = 1) : x ≠ y ∧ pf N n x y = true := by
  unfold so at h
  by_cases e : x = y
  · rw [if_pos e] at h; exact absurd h (by decide)
  · rw [if_neg e] at h
    refine ⟨e, ?_⟩
    split at h
    · assumption
    · split at h
      · exact absurd h (by decide)
      · exact absurd h (by decide)
theorem so_tr {N : nod} {n : Nat} (ho : okR (nR N n)) {x y z : Int32} (h1 : so N n x y = 1) (h2 : so N n y z = 1) : so N n x z = 1 := by
  have a := (so_1 h1).2
  have b := (so_1 h2).2
  have c := pf_tr ho a b
  unfold so
  by_cases e : x = z
  · subst e
    rw [pf_irr ho] at c
    cases c
  · rw [if_neg e, if_pos c]
section SAY
variable {N : nod} {c : Nat}
theorem say_fl (ho : okN N c) (u v : Nat → Int32) : ∀ n, n < c → say N v u n = fl (say N u v n) := by
  intro n
  induction n using Nat.strongRecOn with
  | _ n ih =>
    intro hn
    by_cases hk : nK N n < 6
    · rw [say_o hk, say_o hk]
      exact so_fl (ho.1 n hn) _ _
    · have hc := ho.2 n hn hk
      rw [say_t hk hc, say_t hk hc, ih _ hc.1 (by omega), ih _ hc.2 (by omega)]
      exact jn_fl _ _ _
theorem say_self (ho : okN N c) (u : Nat → Int32) : ∀ n, n < c → say N u u n = 3 := by
  intro n
  induction n using Nat.strongRecOn with
  | _ n ih =>
    intro hn
    by_cases hk : nK N n < 6
    · rw [say_o hk]; simp [so]
    · have hc := ho.2 n hn hk
      rw [say_t hk hc, ih _ hc.1 (by omega), ih _ hc.2 (by omega)]
      rcases jn_cases (nK N n) with h | h | h | h <;> rw [h] <;> decide
theorem say_3 (ho : okN N c) (u v : Nat → Int32) : ∀ n, n < c → say N u v n = 3 → ∀ w, say N u w n = say N v w n := by
  intro n
  induction n using Nat.strongRecOn with
  | _ n ih =>
    intro hn h w
    by_cases hk : nK N n < 6
    · rw [say_o hk] at h
      rw [say_o hk, say_o hk, so_3 h]
    · have hc := ho.2 n hn hk
      rw [say_t hk hc] at h
      obtain ⟨h1, h2⟩ := jn_same _ _ _ h
      rw [say_t hk hc, say_t hk hc, ih _ hc.1 (by omega) h1 w]
      by_cases h9 : nK N n = 9
      · rw [h9]
        simp [jn]
      · rw [ih _ hc.2 (by omega) (h2 h9) w]
theorem say_3' (ho : okN N c) (u v : Nat → Int32) {n : Nat} (hn : n < c) (h : say N u v n = 3) (w : Nat → Int32) : say N w u n = say N w v n := by
  rw [say_fl ho u w n hn, say_fl ho v w n hn, say_3 ho u v n hn h w]
theorem fl_2 {a : Fin 4} : fl a = 2 ↔ a = 1 := by revert a; decide
theorem fl_1 {a : Fin 4} : fl a = 1 ↔ a = 2 := by revert a; decide
theorem fl_3 {a : Fin 4} : fl a = 3 ↔ a = 3 := by revert a; decide
theorem say_tr (ho : okN N c) : ∀ n, n < c → ∀ u v w : Nat → Int32, say N u v n = 1 → say N v w n = 1 → say N u w n = 1 := by
  intro n
  induction n using Nat.strongRecOn with
  | _ n ih =>
    intro hn u v w h1 h2
    by_cases hk : nK N n < 6
    · rw [say_o hk] at h1 h2 ⊢
      exact so_tr (ho.1 n hn) h1 h2
    · have hc := ho.2 n hn hk
      rw [say_t hk hc] at h1 h2 ⊢
      have hl : nL N n < c := by omega
      have hr : nQ N n < c := by omega
      have tr2 : ∀ m, m < n → say N u v m = 2 → say N v w m = 2 → say N u w m = 2 := by
        intro m hm g1 g2
        have hmc : m < c := by omega
        have a1 : say N v u m = 1 := fl_2.mp (by rw [← say_fl ho v u m hmc]; exact g1)
        have a2 : say N w v m = 1 := fl_2.mp (by rw [← say_fl ho w v m hmc]; exact g2)
        have a3 := ih m hm hmc w v u a2 a1
        rw [say_fl ho w u m hmc, a3]
        decide
      refine jn_trans _ _ _ _ _ _ _ (ih _ hc.1 hl u v w) (tr2 _ hc.1) (fun g => ?_) (fun g => ?_) (ih _ hc.2 hr u v w) (fun g => ?_) (fun g => ?_) h1 h2
      · exact say_3 ho u v _ hl g w
      · exact (say_3' ho v w hl g u).symm
      · exact say_3 ho u v _ hr g w
      · exact (say_3' ho v w hr g u).symm
end SAY
end
section
/-! Graphs: what one comes to along edges, kept up (the class) and sought anew (the reference). e: edges, r: reach, as masks. -/
def okG (e r : Nat → Int32) : Prop := okR r ∧ (∀ x y, x < 10 → y < 10 → bt (e x) y = true → bt (r x) y = true) ∧ ∀ x y, x < 10 → y < 10 → bt (r x) y = true → bt (e x) y = true ∨ ∃ z, z < 10 ∧ bt (r x) z = true ∧ bt (e z) y = true
/-- values 0 .. v - 1 gone through once -/
def sv (e : Nat → Int32) (s : Int32) : Nat → Int32
  | 0 => s
  | v + 1 => if bt (sv e s v) v = true then sv e s v ||| e v else sv e s v
def rn (e : Nat → Int32) (s : Int32) : Nat → Int32
  | 0 => s
  | r + 1 => sv e (rn e s r) 10
theorem sv_mono {e : Nat → Int32} {s : Int32} {y : Nat} (h : bt s y = true) : ∀ v, bt (sv e s v) y = true
  | 0 => h
  | v + 1 => by
    have := sv_mono h v
    simp only [sv]
    split
    · rw [b_or, this]; rfl
    · exact this
theorem sv_add {e : Nat → Int32} {s : Int32} {z y : Nat} (h : bt s z = true) (hy : bt (e z) y = true) : ∀ v, z < v → bt (sv e s v) y = true
  | 0, hv => absurd hv (Nat.not_lt_zero _)
  | v + 1, hv => by
    simp only [sv]
    by_cases hz : z = v
    · subst hz
      rw [if_pos (sv_mono h z), b_or, hy, Bool.or_true]
    · have := sv_add h hy v (by omega)
      split
      · rw [b_or, this]; rfl
      · exact this
theorem rn_mono {e : Nat → Int32} {s : Int32} {y : Nat} (h : bt s y = true) : ∀ m, bt (rn e s m) y = true
  | 0 => h
  | m + 1 => sv_mono (rn_mono h m) 10
theorem sv_sound {e r : Nat → Int32} (hG : okG e r) {x : Nat} (hx : x < 10) {s : Int32} (hs : ∀ y, y < 10 → bt s y = true → bt (r x) y = true) : ∀ v, v ≤ 10 → ∀ y, y < 10 → bt (sv e s v) y = true → bt (r x) y = true
  | 0, _, y, hy, h => hs y hy h
  | v + 1, hv, y, hy, h => by
    simp only [sv] at h
    split at h
    · rename_i h1
      rw [b_or, Bool.or_eq_true] at h
      rcases h with h | h
      · exact sv_sound hG hx hs v (by omega) y hy h
      · have h2 := sv_sound hG hx hs v (by omega) v (by omega) h1
        exact hG.1.2 x v y hx (by omega) hy h2 (hG.2.1 v y (by omega) hy h)
    · exact sv_sound hG hx hs v (by omega) y hy h
theorem rn_sound {e r : Nat → Int32} (hG : okG e r) {x : Nat} (hx : x < 10) : ∀ m, ∀ y, y < 10 → bt (rn e (e x) m) y = true → bt (r x) y = true
  | 0, y, hy, h => hG.2.1 x y hx hy h
  | m + 1, y, hy, h => sv_sound hG hx (rn_sound hG hx m) 10 (Nat.le_refl _) y hy h
theorem rn_comp {e r : Nat → Int32} (hG : okG e r) {x : Nat} (hx : x < 10) : ∀ m, ∀ y, y < 10 → bt (r x) y = true → cnt (fun z => bt (r x) z && bt (r z) y) 10 ≤ m → bt (rn e (e x) m) y = true := by
  have step : ∀ y z, y < 10 → z < 10 → bt (r x) z = true → bt (e z) y = true → cnt (fun w => bt (r x) w && bt (r w) z) 10 < cnt (fun w => bt (r x) w && bt (r w) y) 10 := by
    intro y z hy hz h1 h2
    have h3 := hG.2.1 z y hz hy h2
    refine cnt_lt 10 (fun w hw h => ?_) z hz ?_ ?_
    · simp only [Bool.and_eq_true] at h ⊢
      exact ⟨h.1, hG.1.2 w z y hw hz hy h.2 h3⟩
    · simp only [h1, h3]; rfl
    · simp only [hG.1.1 z hz, Bool.and_false]
  intro m
  induction m with
  | zero =>
    intro y hy h hc
    rcases hG.2.2 x y hx hy h with h1 | ⟨z, hz, h1, h2⟩
    · exact h1
    · have := step y z hy hz h1 h2
      omega
  | succ m ih =>
    intro y hy h hc
    rcases hG.2.2 x y hx hy h with h1 | ⟨z, hz, h1, h2⟩
    · exact rn_mono h1 (m + 1)
    · have h3 := step y z hy hz h1 h2
      exact sv_add (ih z hz h1 (by omega)) h2 10 hz
/-- sought anew is as kept up -/
theorem rn_eq {e r : Nat → Int32} (hG : okG e r) {x y : Nat} (hx : x < 10) (hy : y < 10) : bt (rn e (e x) 10) y = bt (r x) y := by
  cases h : bt (r x) y with
  | true => exact rn_comp hG hx 10 y hy h (cnt_le _ 10)
  | false =>
    cases h2 : bt (rn e (e x) 10) y with
    | false => rfl
    | true =>
      rw [rn_sound hG hx 10 y hy h2] at h
      cases h
/-- one more edge -/
def eJ (e : Nat → Int32) (b w : Nat) : Nat → Int32 := upd e b (e b ||| nI 1 <<< (nI w &&& 31))
def rJ (r : Nat → Int32) (b w : Nat) : Nat → Int32 := fun v => if v = b ∨ bt (r v) b = true then r v ||| (nI 1 <<< (nI w &&& 31) ||| r w) else r v
theorem eJ_bt {e : Nat → Int32} {b w x y : Nat} (hw : w < 10) (hy : y < 10) : bt (eJ e b w x) y = (bt (e x) y || (decide (x = b) && decide (y = w))) := by
  unfold eJ
  by_cases h : x = b
  · subst h
    rw [pk_us, b_or, q_sh1 (by omega) (by omega)]
    simp
  · rw [pk_un h]
    simp [h]
theorem rJ_bt {r : Nat → Int32} {b w x y : Nat} (hw : w < 10) (hy : y < 10) : bt (rJ r b w x) y = (bt (r x) y || ((decide (x = b) || bt (r x) b) && (decide (y = w) || bt (r w) y))) := by
  unfold rJ
  by_cases h : x = b ∨ bt (r x) b = true
  · rw [if_pos h, b_or, b_or, q_sh1 (by omega) (by omega)]
    have : (decide (x = b) || bt (r x) b) = true := by simpa using h
    rw [this, Bool.true_and]
  · rw [if_neg h]
    have : (decide (x = b) || bt (r x) b) = false := by
      rw [Bool.eq_false_iff]
      intro q
      exact h (by simpa using q)
    rw [this, Bool.false_and, Bool.or_false]
theorem okG_join {e r : Nat → Int32} (hG : okG e r) {b w : Nat} (hb : b < 10) (hw : w < 10) (hne : b ≠ w) (hno : bt (r w) b = false) : okG (eJ e b w) (rJ r b w) := by
  have hR : ∀ x y, x < 10 → y < 10 → (bt (rJ r b w x) y = true ↔ bt (r x) y = true ∨ ((x = b ∨ bt (r x) b = true) ∧ (y = w ∨ bt (r w) y = true))) := by
    intro x y hx hy
    rw [rJ_bt hw hy]
    simp only [Bool.or_eq_true, Bool.and_eq_true, decide_eq_true_eq]
  have hE : ∀ x y, x < 10 → y < 10 → (bt (eJ e b w x) y = true ↔ bt (e x) y = true ∨ (x = b ∧ y = w)) := by
    intro x y hx hy
    rw [eJ_bt hw hy]
    simp only [Bool.or_eq_true, Bool.and_eq_true, decide_eq_true_eq]
  obtain ⟨⟨hi, ht⟩, hs, hl⟩ := hG
  have hno' : ¬ bt (r w) b = true := by rw [hno]; decide
  refine ⟨⟨fun x hx => ?_, fun x y z hx hy hz h1 h2 => ?_⟩, fun x y hx hy h => ?_, fun x y hx hy h => ?_⟩
  · cases hc : bt (rJ r b w x) x with
    | false => rfl
    | true =>
      exfalso
      rcases (hR x x hx hx).mp hc with h | ⟨h1, h2⟩
      · rw [hi x hx] at h; cases h
      · rcases h1 with rfl | h1
        · rcases h2 with rfl | h2
          · exact hne rfl
          · exact hno' h2
        · rcases h2 with rfl | h2
          · exact hno' h1
          · exact hno' (ht w x b hw hx hb h2 h1)
  · rw [hR x y hx hy] at h1
    rw [hR y z hy hz] at h2
    rw [hR x z hx hz]
    rcases h1 with h1 | ⟨a1, a2⟩
    · rcases h2 with h2 | ⟨c1, c2⟩
      · exact Or.inl (ht x y z hx hy hz h1 h2)
      · refine Or.inr ⟨?_, c2⟩
        rcases c1 with rfl | c1
        · exact Or.inr h1
        · exact Or.inr (ht x y b hx hy hb h1 c1)
    · rcases h2 with h2 | ⟨c1, c2⟩
      · refine Or.inr ⟨a1, ?_⟩
        rcases a2 with rfl | a2
        · exact Or.inr h2
        · exact Or.inr (ht w y z hw hy hz a2 h2)
      · exact Or.inr ⟨a1, c2⟩
  · rw [hE x y hx hy] at h
    rw [hR x y hx hy]
    rcases h with h | ⟨rfl, rfl⟩
    · exact Or.inl (hs x y hx hy h)
    · exact Or.inr ⟨Or.inl rfl, Or.inl rfl⟩
  · rw [hR x y hx hy] at h
    have mE : ∀ a c, a < 10 → c < 10 → bt (e a) c = true → bt (eJ e b w a) c = true := fun a c ha hc q => (hE a c ha hc).mpr (Or.inl q)
    have mR : ∀ a c, a < 10 → c < 10 → bt (r a) c = true → bt (rJ r b w a) c = true := fun a c ha hc q => (hR a c ha hc).mpr (Or.inl q)
    rcases h with h | ⟨a1, a2⟩
    · rcases hl x y hx hy h with h1 | ⟨z, hz, h1, h2⟩
      · exact Or.inl (mE x y hx hy h1)
      · exact Or.inr ⟨z, hz, mR x z hx hz h1, mE z y hz hy h2⟩
    · rcases a2 with rfl | a2
      · rcases a1 with rfl | a1
        · exact Or.inl ((hE _ _ hb hw).mpr (Or.inr ⟨rfl, rfl⟩))
        · exact Or.inr ⟨b, hb, mR x b hx hb a1, (hE _ _ hb hw).mpr (Or.inr ⟨rfl, rfl⟩)⟩
      · rcases hl w y hw hy a2 with h1 | ⟨z, hz, h1, h2⟩
        · exact Or.inr ⟨w, hw, (hR x w hx hw).mpr (Or.inr ⟨a1, Or.inl rfl⟩), mE w y hw hy h1⟩
        · exact Or.inr ⟨z, hz, (hR x z hx hz).mpr (Or.inr ⟨a1, Or.inr h1⟩), mE z y hz hy h2⟩
theorem okG_0 : okG (fun _ => nI 0) (fun _ => nI 0) := by
  refine ⟨⟨fun x hx => q_0 x, fun x y z _ _ _ h _ => ?_⟩, fun x y _ _ h => ?_, fun x y _ _ h => ?_⟩ <;> (rw [q_0] at h; cases h)
end
section
/-! Levels. P: who passes; B u v: u beats v; among the numbers below n. -/
def mx (f : Nat → Nat) : Nat → Nat
  | 0 => 0
  | n + 1 => max (mx f n) (f n)
theorem mx_le {f : Nat → Nat} {m : Nat} : ∀ n, mx f n ≤ m ↔ ∀ u, u < n → f u ≤ m
  | 0 => ⟨fun _ u hu => absurd hu (Nat.not_lt_zero _), fun _ => Nat.zero_le _⟩
  | n + 1 => by
    simp only [mx]
    have ih := mx_le (f := f) (m := m) n
    constructor
    · intro h u hu
      by_cases hun : u = n
      · subst hun; omega
      · exact ih.mp (by omega) u (by omega)
    · intro h
      have h1 := ih.mpr (fun u hu => h u (by omega))
      have h2 := h n (by omega)
      omega
theorem mx_congr {f g : Nat → Nat} : ∀ n, (∀ u, u < n → f u = g u) → mx f n = mx g n
  | 0, _ => rfl
  | n + 1, h => by
    simp only [mx]
    rw [mx_congr n (fun u hu => h u (by omega)), h n (by omega)]
def lvk (P : Nat → Bool) (B : Nat → Nat → Bool) (n : Nat) : Nat → Nat → Nat
  | 0, _ => 1
  | k + 1, v => 1 + mx (fun u => if P u = true ∧ B u v = true then lvk P B n k u else 0) n
def lv (P : Nat → Bool) (B : Nat → Nat → Bool) (n v : Nat) : Nat := lvk P B n n v
def okB (P : Nat → Bool) (B : Nat → Nat → Bool) (n : Nat) : Prop := (∀ u, u < n → P u = true → B u u = false) ∧ ∀ u v w, u < n → v < n → w < n → P u = true → P v = true → P w = true → B u v = true → B v w = true → B u w = true
section LV
variable {P : Nat → Bool} {B : Nat → Nat → Bool} {n : Nat}
theorem lv_pre (h : okB P B n) {u v : Nat} (hu : u < n) (hv : v < n) (pu : P u = true) (pv : P v = true) (hb : B u v = true) : cnt (fun w => P w && B w u) n < cnt (fun w => P w && B w v) n := by
  refine cnt_lt n (fun w hw q => ?_) u hu ?_ ?_
  · simp only [Bool.and_eq_true] at q ⊢
    exact ⟨q.1, h.2 w u v hw hu hv q.1 pu pv q.2 hb⟩
  · simp [pu, hb]
  · simp [h.1 u hu pu]
theorem lvk_st (h : okB P B n) : ∀ k v, v < n → P v = true → cnt (fun w => P w && B w v) n ≤ k → lvk P B n (k + 1) v = lvk P B n k v := by
  intro k
  induction k with
  | zero =>
    intro v hv pv hc
    show 1 + mx _ n = 1
    have : mx (fun u => if P u = true ∧ B u v = true then lvk P B n 0 u else 0) n ≤ 0 := by
      refine (mx_le n).mpr fun u hu => ?_
      split
      · rename_i q
        have := cnt_lt (f := fun _ => false) (g := fun w => P w && B w v) n (fun i _ q => by cases q) u hu (by simp [q.1, q.2]) rfl
        omega
      · exact Nat.le_refl _
    omega
  | succ k ih =>
    intro v hv pv hc
    show 1 + mx _ n = 1 + mx _ n
    congr 1
    refine mx_congr n fun u hu => ?_
    by_cases q : P u = true ∧ B u v = true
    · rw [if_pos q, if_pos q]
      have := lv_pre h hu hv q.1 pv q.2
      exact ih u hu q.1 (by omega)
    · rw [if_neg q, if_neg q]
theorem lv_fix (h : okB P B n) {v : Nat} (hv : v < n) (pv : P v = true) : lv P B n v = 1 + mx (fun u => if P u = true ∧ B u v = true then lv P B n u else 0) n := by
  have := lvk_st h n v hv pv (cnt_le _ n)
  exact this.symm
/-- a level is at most m + 1 just if those that beat are at most m -/
theorem lv_iff (h : okB P B n) {v m : Nat} (hv : v < n) (pv : P v = true) : lv P B n v ≤ m + 1 ↔ ∀ u, u < n → P u = true → B u v = true → lv P B n u ≤ m := by
  rw [lv_fix h hv pv]
  have e := mx_le (f := fun u => if P u = true ∧ B u v = true then lv P B n u else 0) (m := m) n
  constructor
  · intro q u hu pu hb
    have := e.mp (by omega) u hu
    simpa [pu, hb] using this
  · intro q
    have := e.mpr (fun u hu => by
      by_cases q2 : P u = true ∧ B u v = true
      · simp only [q2]; exact q u hu q2.1 q2.2
      · rw [if_neg q2]; exact Nat.zero_le _)
    omega
theorem lv_pos (h : okB P B n) {v : Nat} (hv : v < n) (pv : P v = true) : 1 ≤ lv P B n v := by
  rw [lv_fix h hv pv]; omega
theorem lv_lt (h : okB P B n) {u v : Nat} (hu : u < n) (hv : v < n) (pu : P u = true) (pv : P v = true) (hb : B u v = true) : lv P B n u < lv P B n v := by
  have h1 := lv_pos h hv pv
  have h2 := (lv_iff h (m := lv P B n v - 1) hv pv).mp (by omega) u hu pu hb
  omega
theorem lvk_le (h : okB P B n) : ∀ k v, v < n → P v = true → lvk P B n k v ≤ 1 + cnt (fun w => P w && B w v) n := by
  intro k
  induction k with
  | zero => intro v _ _; show 1 ≤ _; omega
  | succ k ih =>
    intro v hv pv
    show 1 + mx _ n ≤ _
    have := (mx_le (f := fun u => if P u = true ∧ B u v = true then lvk P B n k u else 0) (m := cnt (fun w => P w && B w v) n) n).mpr (fun u hu => by
      by_cases q : P u = true ∧ B u v = true
      · simp only [q]
        have h1 := ih u hu q.1
        have h2 := lv_pre h hu hv q.1 pv q.2
        simp only [and_self, if_true]
        omega
      · rw [if_neg q]; exact Nat.zero_le _)
    omega
theorem lv_le (h : okB P B n) {v : Nat} (hv : v < n) (pv : P v = true) : lv P B n v ≤ cnt P n := by
  have h1 := lvk_le h n v hv pv
  have h2 := cnt_lt (f := fun w => P w && B w v) (g := P) n (fun i _ q => by simp only [Bool.and_eq_true] at q; exact q.1) v hv pv (by simp [h.1 v hv pv])
  show lvk P B n n v ≤ _
  omega
/-- there is one right below, if the level is not 1 -/
theorem lv_below (h : okB P B n) {v m : Nat} (hv : v < n) (pv : P v = true) (hm : lv P B n v = m + 2) : ∃ u, u < n ∧ P u = true ∧ B u v = true ∧ lv P B n u = m + 1 := by
  have h1 : ¬ lv P B n v ≤ m + 1 := by omega
  rw [lv_iff h hv pv] at h1
  simp only [Classical.not_forall] at h1
  obtain ⟨u, hu, pu, hb, hx⟩ := h1
  have := lv_lt h hu hv pu pv hb
  exact ⟨u, hu, pu, hb, by omega⟩
/-- what no beating pair breaks is at least the level -/
theorem lv_low (h : okB P B n) {f : Nat → Nat} (h1 : ∀ v, v < n → P v = true → 1 ≤ f v) (h2 : ∀ u v, u < n → v < n → P u = true → P v = true → B u v = true → f u < f v) : ∀ v, v < n → P v = true → lv P B n v ≤ f v := by
  have : ∀ k v, v < n → P v = true → lvk P B n k v ≤ f v := by
    intro k
    induction k with
    | zero => intro v hv pv; exact h1 v hv pv
    | succ k ih =>
      intro v hv pv
      show 1 + mx _ n ≤ _
      have h3 := h1 v hv pv
      have := (mx_le (f := fun u => if P u = true ∧ B u v = true then lvk P B n k u else 0) (m := f v - 1) n).mpr (fun u hu => by
        by_cases q : P u = true ∧ B u v = true
        · simp only [q]
          have g1 := ih u hu q.1
          have g2 := h2 u v hu hv q.1 pv q.2
          simp only [and_self, if_true]
          omega
        · rw [if_neg q]; exact Nat.zero_le _)
      omega
  exact fun v hv pv => this n v hv pv
end LV
end
section
/-! Numbers told one by one, rising: the first c of f are those below R of the kind S. -/
def en (c : Nat) (f : Nat → Nat) (S : Nat → Bool) (R : Nat) : Prop := (∀ i j, i < j → j < c → f i < f j) ∧ (∀ i, i < c → f i < R ∧ S (f i) = true) ∧ ∀ r, r < R → S r = true → ∃ i, i < c ∧ f i = r
theorem cnt_step (S : Nat → Bool) (n : Nat) : cnt S (n + 1) = cnt S n + (if S n = true then 1 else 0) := rfl
theorem cnt_up {S : Nat → Bool} {m n : Nat} (h : m ≤ n) : cnt S m ≤ cnt S n := by
  induction n with
  | zero => rw [Nat.le_zero.mp h]; exact Nat.le_refl _
  | succ n ih =>
    rw [cnt_step]
    by_cases e : m = n + 1
    · subst e; rw [cnt_step]; exact Nat.le_refl _
    · have := ih (by omega)
      omega
theorem cnt_in {S : Nat → Bool} {m n : Nat} (h : m < n) (hs : S m = true) : cnt S m < cnt S n := by
  have h1 : cnt S (m + 1) ≤ cnt S n := cnt_up h
  rw [cnt_step, if_pos hs] at h1
  omega
/-- nothing between: the count stays -/
theorem cnt_flat {S : Nat → Bool} {m n : Nat} (h : m ≤ n) (hs : ∀ r, m ≤ r → r < n → S r = false) : cnt S n = cnt S m := by
  induction n with
  | zero => rw [Nat.le_zero.mp h]
  | succ n ih =>
    by_cases e : m = n + 1
    · rw [e]
    · rw [cnt_step, hs n (by omega) (by omega), ih (by omega) (fun r h1 h2 => hs r h1 (by omega))]
      rfl
theorem en_cnt {c : Nat} {f : Nat → Nat} {S : Nat → Bool} {R : Nat} (h : en c f S R) : ∀ i, i < c → cnt S (f i) = i := by
  obtain ⟨h1, h2, h3⟩ := h
  intro i
  induction i with
  | zero =>
    intro hi
    have := cnt_flat (S := S) (m := 0) (n := f 0) (Nat.zero_le _) (fun r _ hr => by
      cases hs : S r with
      | false => rfl
      | true =>
        obtain ⟨j, hj, e⟩ := h3 r (by have := (h2 0 hi).1; omega) hs
        by_cases hj0 : j = 0
        · subst hj0; omega
        · have := h1 0 j (by omega) hj
          omega)
    rw [this]; rfl
  | succ i ih =>
    intro hi
    have a := ih (by omega)
    have b := h1 i (i + 1) (by omega) hi
    have e1 : cnt S (f i + 1) = i + 1 := by rw [cnt_step, if_pos (h2 i (by omega)).2, a]
    rw [← e1]
    refine cnt_flat (by omega) (fun r g1 g2 => ?_)
    cases hs : S r with
    | false => rfl
    | true =>
      obtain ⟨j, hj, e⟩ := h3 r (by have := (h2 (i + 1) hi).1; omega) hs
      rcases Nat.lt_trichotomy j i with q | q | q
      · have := h1 j i q (by omega); omega
      · subst q; omega
      · by_cases q2 : j = i + 1
        · subst q2; omega
        · have := h1 (i + 1) j (by omega) hj; omega
theorem en_total {c : Nat} {f : Nat → Nat} {S : Nat → Bool} {R : Nat} (h : en c f S R) : cnt S R = c := by
  obtain ⟨h1, h2, h3⟩ := h
  by_cases hc : c = 0
  · subst hc
    have := cnt_flat (S := S) (m := 0) (n := R) (Nat.zero_le _) (fun r _ hr => by
      cases hs : S r with
      | false => rfl
      | true => obtain ⟨j, hj, _⟩ := h3 r hr hs; omega)
    rw [this]; rfl
  · have a := en_cnt ⟨h1, h2, h3⟩ (c - 1) (by omega)
    have b := h2 (c - 1) (by omega)
    have e1 : cnt S (f (c - 1) + 1) = c := by rw [cnt_step, if_pos b.2, a]; omega
    rw [← e1]
    refine cnt_flat (by omega) (fun r g1 g2 => ?_)
    cases hs : S r with
    | false => rfl
    | true =>
      obtain ⟨j, hj, e⟩ := h3 r g2 hs
      by_cases q : j = c - 1
      · subst q; omega
      · have := h1 j (c - 1) (by omega) (by omega); omega
/-- there is but one such row of numbers -/
theorem en_uniq {c c' : Nat} {f f' : Nat → Nat} {S : Nat → Bool} {R : Nat} (h : en c f S R) (h' : en c' f' S R) : c = c' ∧ ∀ i, i < c → f i = f' i := by
  have e : c = c' := (en_total h).symm.trans (en_total h')
  subst e
  refine ⟨rfl, fun i hi => ?_⟩
  have a := en_cnt h i hi
  have b := en_cnt h' i hi
  rcases Nat.lt_trichotomy (f i) (f' i) with q | q | q
  · have := cnt_in q (h.2.1 i hi).2; omega
  · exact q
  · have := cnt_in q (h'.2.1 i hi).2; omega
/-- one more number at the end -/
theorem en_push {c : Nat} {f : Nat → Nat} {S : Nat → Bool} {R : Nat} (h : en c f S R) (hs : S R = true) {f' : Nat → Nat} (hf : ∀ i, i < c → f' i = f i) (hc : f' c = R) : en (c + 1) f' S (R + 1) := by
  obtain ⟨h1, h2, h3⟩ := h
  refine ⟨fun i j hij hj => ?_, fun i hi => ?_, fun r hr hsr => ?_⟩
  · by_cases q : j = c
    · subst q
      rw [hc, hf i hij]
      exact (h2 i hij).1
    · rw [hf i (by omega), hf j (by omega)]
      exact h1 i j hij (by omega)
  · by_cases q : i = c
    · subst q
      rw [hc]
      exact ⟨by omega, hs⟩
    · rw [hf i (by omega)]
      have := h2 i (by omega)
      exact ⟨by omega, this.2⟩
  · by_cases q : r = R
    · exact ⟨c, by omega, hc.trans q.symm⟩
    · obtain ⟨i, hi, e⟩ := h3 r (by omega) hsr
      exact ⟨i, by omega, (hf i hi).trans e⟩
theorem en_skip {c : Nat} {f : Nat → Nat} {S : Nat → Bool} {R : Nat} (h : en c f S R) (hs : S R = false) : en c f S (R + 1) := by
  obtain ⟨h1, h2, h3⟩ := h
  refine ⟨h1, fun i hi => ⟨by have := (h2 i hi).1; omega, (h2 i hi).2⟩, fun r hr hsr => ?_⟩
  by_cases q : r = R
  · subst q; rw [hs] at hsr; cases hsr
  · exact h3 r (by omega) hsr
theorem en_0 {f : Nat → Nat} {S : Nat → Bool} : en 0 f S 0 := ⟨fun i j _ hj => absurd hj (Nat.not_lt_zero _), fun i hi => absurd hi (Nat.not_lt_zero _), fun r hr => absurd hr (Nat.not_lt_zero _)⟩
theorem en_congr {c : Nat} {f f' : Nat → Nat} {S S' : Nat → Bool} {R : Nat} (h : en c f S R) (hf : ∀ i, i < c → f' i = f i) (hS : ∀ r, r < R → S' r = S r) : en c f' S' R := by
  obtain ⟨h1, h2, h3⟩ := h
  refine ⟨fun i j hij hj => by rw [hf i (by omega), hf j hj]; exact h1 i j hij hj, fun i hi => ?_, fun r hr hs => ?_⟩
  · have := h2 i hi
    rw [hf i hi, hS _ this.1]
    exact this
  · rw [hS r hr] at hs
    obtain ⟨i, hi, e⟩ := h3 r hr hs
    exact ⟨i, hi, (hf i hi).trans e⟩
/-- out of rising numbers those of a kind -/
theorem en_inj {c : Nat} {f : Nat → Nat} {S : Nat → Bool} {R : Nat} (h : en c f S R) {i j : Nat} (hi : i < c) (hj : j < c) (e : f i = f j) : i = j := by
  rcases Nat.lt_trichotomy i j with q | q | q
  · have := h.1 i j q hj; omega
  · exact q
  · have := h.1 j i q hi; omega
end
section
/-! Forms. T: kinds, columns, a, b of what the reference has made. -/
abbrev mdt : Type := (Nat → Int32) × (Nat → Int32) × (Nat → Int32) × (Nat → Int32)
abbrev tK (T : mdt) : Nat → Int32 := T.1
abbrev tC (T : mdt) : Nat → Int32 := T.2.1
abbrev tA (T : mdt) : Nat → Int32 := T.2.2.1
abbrev tB (T : mdt) : Nat → Int32 := T.2.2.2
def fm (T : mdt) (i : Nat) : List Int32 :=
  if tK T i = nI 9 then (if _h : (tA T i).toNatClampNeg < i then nI 9 :: fm T (tA T i).toNatClampNeg else [])
  else if nI 5 < tK T i then (if _h : (tA T i).toNatClampNeg < i ∧ (tB T i).toNatClampNeg < i then tK T i :: (fm T (tA T i).toNatClampNeg ++ fm T (tB T i).toNatClampNeg) else [])
  else tK T i :: tC T i :: (if tK T i = nI 3 then [tA T i, tB T i] else if nI 1 < tK T i then [tA T i] else [])
termination_by i
decreasing_by all_goals omega
theorem fm_9 {T : mdt} {i a : Nat} (hk : tK T i = nI 9) (ha : tA T i = nI a) (hl : a < i) (hi : i < 65536) : fm T i = nI 9 :: fm T a := by
  have e : (tA T i).toNatClampNeg = a := by rw [ha, nI_clamp (by omega)]
  rw [fm, if_pos hk, e, dif_pos hl]
theorem fm_t {T : mdt} {i a b : Nat} (h9 : ¬ tK T i = nI 9) (hk : nI 5 < tK T i) (ha : tA T i = nI a) (hb : tB T i = nI b) (hl : a < i) (hl2 : b < i) (hi : i < 65536) : fm T i = tK T i :: (fm T a ++ fm T b) := by
  have e : (tA T i).toNatClampNeg = a := by rw [ha, nI_clamp (by omega)]
  have e2 : (tB T i).toNatClampNeg = b := by rw [hb, nI_clamp (by omega)]
  rw [fm, if_neg h9, if_pos hk, e, e2, dif_pos ⟨hl, hl2⟩]
theorem fm_o {T : mdt} {i : Nat} (h9 : ¬ tK T i = nI 9) (hk : ¬ nI 5 < tK T i) : fm T i = tK T i :: tC T i :: (if tK T i = nI 3 then [tA T i, tB T i] else if nI 1 < tK T i then [tA T i] else []) := by
  rw [fm, if_neg h9, if_neg hk]
/-- rows that are as they are made -/
def okE (T : mdt) (i : Nat) : Prop :=
  (tK T i = nI 9 ∧ tC T i = -1 ∧ ∃ a, a < i ∧ tA T i = nI a ∧ tB T i = nI a) ∨
  (¬ tK T i = nI 9 ∧ nI 5 < tK T i ∧ tC T i = -1 ∧ ∃ a b, a < i ∧ b < i ∧ tA T i = nI a ∧ tB T i = nI b) ∨
  (¬ tK T i = nI 9 ∧ ¬ nI 5 < tK T i ∧ (¬ tK T i = nI 3 → tB T i = nI 0) ∧ (¬ nI 1 < tK T i → tA T i = nI 0))
def okM (T : mdt) (m : Nat) : Prop := m ≤ 100 ∧ (∀ i, i < m → okE T i) ∧ ∀ i j, i < m → j < m → tK T i = tK T j → tC T i = tC T j → tA T i = tA T j → tB T i = tB T j → i = j
theorem fm_head {T : mdt} {i : Nat} (h : okE T i) (hi : i < 65536) : ∃ t, fm T i = tK T i :: t := by
  rcases h with ⟨h1, _, a, ha, e1, _⟩ | ⟨h1, h2, _, a, b, ha, hb, e1, e2⟩ | ⟨h1, h2, _, _⟩
  · exact ⟨_, by rw [fm_9 h1 e1 ha hi, h1]⟩
  · exact ⟨_, fm_t h1 h2 e1 e2 ha hb hi⟩
  · exact ⟨_, fm_o h1 h2⟩
def sk : Nat → List Int32 → Option (List Int32)
  | 0, _ => none
  | _ + 1, [] => none
  | f + 1, x :: t => if x = nI 9 then sk f t else if nI 5 < x then (sk f t).bind (sk f) else if x = nI 3 then some (t.drop 3) else if nI 1 < x then some (t.drop 2) else some (t.drop 1)
theorem sk_fm {T : mdt} {m : Nat} (hM : okM T m) : ∀ i, i < m → ∀ f, i < f → ∀ t, sk f (fm T i ++ t) = some t := by
  have hm := hM.1
  intro i
  induction i using Nat.strongRecOn with
  | _ i ih =>
    intro hi f hf t
    obtain ⟨f, rfl⟩ : ∃ g, f = g + 1 := ⟨f - 1, by omega⟩
    rcases hM.2.1 i hi with ⟨h1, _, a, ha, e1, _⟩ | ⟨h1, h2, _, a, b, ha, hb, e1, e2⟩ | ⟨h1, h2, _, _⟩
    · rw [fm_9 h1 e1 ha (by omega), List.cons_append]
      simp only [sk, if_true]
      exact ih a ha (by omega) f (by omega) t
    · rw [fm_t h1 h2 e1 e2 ha hb (by omega), List.cons_append, List.append_assoc]
      simp only [sk, if_neg h1, if_pos h2]
      rw [ih a ha (by omega) f (by omega) _, Option.bind_some]
      exact ih b hb (by omega) f (by omega) t
    · rw [fm_o h1 h2, List.cons_append]
      simp only [sk, if_neg h1, if_neg h2]
      by_cases h3 : tK T i = nI 3
      · simp [h3]
      · rw [if_neg h3, if_neg h3]
        by_cases h4 : nI 1 < tK T i
        · simp [h4]
        · simp [h4]
theorem fm_inj {T : mdt} {m : Nat} (hM : okM T m) : ∀ i, i < m → ∀ j, j < m → fm T i = fm T j → i = j := by
  have hm := hM.1
  intro i
  induction i using Nat.strongRecOn with
  | _ i ih =>
    intro hi j hj h
    obtain ⟨ti, hti⟩ := fm_head (hM.2.1 i hi) (by omega)
    obtain ⟨tj, htj⟩ := fm_head (hM.2.1 j hj) (by omega)
    have hk : tK T i = tK T j := by rw [hti, htj] at h; exact (List.cons.inj h).1
    rcases hM.2.1 i hi with ⟨h1, c1, a, ha, e1, e1'⟩ | ⟨h1, h2, c1, a, b, ha, hb, e1, e2⟩ | ⟨h1, h2, c1, c2⟩
    · rcases hM.2.1 j hj with ⟨g1, d1, a', ha', f1, f1'⟩ | ⟨g1, _⟩ | ⟨g1, _⟩
      · rw [fm_9 h1 e1 ha (by omega), fm_9 g1 f1 ha' (by omega)] at h
        have := ih a ha (by omega) a' (by omega) (List.cons.inj h).2
        subst this
        exact hM.2.2 i j hi hj hk (c1.trans d1.symm) (e1.trans f1.symm) (e1'.trans f1'.symm)
      · exact absurd (hk.symm.trans h1) g1
      · exact absurd (hk.symm.trans h1) g1
    · rcases hM.2.1 j hj with ⟨g1, _⟩ | ⟨g1, g2, d1, a', b', ha', hb', f1, f2⟩ | ⟨g1, g2, _⟩
      · exact absurd (hk.trans g1) h1
      · rw [fm_t h1 h2 e1 e2 ha hb (by omega), fm_t g1 g2 f1 f2 ha' hb' (by omega)] at h
        have h3 := (List.cons.inj h).2
        have s1 := sk_fm hM a (by omega) 200 (by omega) (fm T b)
        have s2 := sk_fm hM a' (by omega) 200 (by omega) (fm T b')
        rw [h3] at s1
        have h4 : fm T b = fm T b' := Option.some.inj (s1.symm.trans s2)
        rw [h4] at h3
        have h5 : fm T a = fm T a' := List.append_cancel_right h3
        have q1 := ih a ha (by omega) a' (by omega) h5
        have q2 := ih b hb (by omega) b' (by omega) h4
        subst q1; subst q2
        exact hM.2.2 i j hi hj hk (c1.trans d1.symm) (e1.trans f1.symm) (e2.trans f2.symm)
      · exact absurd (hk ▸ h2) g2
    · rcases hM.2.1 j hj with ⟨g1, _⟩ | ⟨g1, g2, _⟩ | ⟨g1, g2, d1, d2⟩
      · exact absurd (hk.trans g1) h1
      · exact absurd (hk ▸ g2) h2
      · rw [fm_o h1 h2, fm_o g1 g2] at h
        have h3 := (List.cons.inj h).2
        have hc := (List.cons.inj h3).1
        have h4 := (List.cons.inj h3).2
        refine hM.2.2 i j hi hj hk hc ?_ ?_
        · by_cases q : tK T i = nI 3
          · rw [if_pos q, if_pos (hk ▸ q)] at h4
            exact (List.cons.inj h4).1
          · rw [if_neg q, if_neg (fun z => q (hk.trans z))] at h4
            by_cases q1 : nI 1 < tK T i
            · rw [if_pos q1, if_pos (hk ▸ q1)] at h4
              exact (List.cons.inj h4).1
            · rw [c2 q1, d2 (fun z => q1 (hk ▸ z))]
        · by_cases q : tK T i = nI 3
          · rw [if_pos q, if_pos (hk ▸ q)] at h4
            exact (List.cons.inj (List.cons.inj h4).2).1
          · rw [c1 q, d1 (fun z => q (hk.trans z))]
/-- earlier rows stay as they are: so do their forms -/
theorem fm_keep {T T' : mdt} {m : Nat} (hM : okM T m) (h : ∀ i, i < m → tK T' i = tK T i ∧ tC T' i = tC T i ∧ tA T' i = tA T i ∧ tB T' i = tB T i) : ∀ i, i < m → fm T' i = fm T i := by
  have hm := hM.1
  intro i
  induction i using Nat.strongRecOn with
  | _ i ih =>
    intro hi
    obtain ⟨k1, k2, k3, k4⟩ := h i hi
    rcases hM.2.1 i hi with ⟨h1, _, a, ha, e1, _⟩ | ⟨h1, h2, _, a, b, ha, hb, e1, e2⟩ | ⟨h1, h2, _, _⟩
    · rw [fm_9 h1 e1 ha (by omega), fm_9 (k1.trans h1) (k3.trans e1) ha (by omega), ih a ha (by omega)]
    · rw [fm_t h1 h2 e1 e2 ha hb (by omega), fm_t (T := T') (by rw [k1]; exact h1) (by rw [k1]; exact h2) (k3.trans e1) (k4.trans e2) ha hb (by omega), ih a ha (by omega), ih b hb (by omega), k1]
    · rw [fm_o h1 h2, fm_o (T := T') (by rw [k1]; exact h1) (by rw [k1]; exact h2), k1, k2, k3, k4]
/-- the reduced form of a node -/
def rd : List Int32 → List Int32
  | [] => [nI 9]
  | x :: t => if x = nI 9 then t else if x = nI 0 then nI 1 :: t else if x = nI 1 then nI 0 :: t else nI 9 :: x :: t
def rt (k : Nat) (cp cq : Int32) (p q : List Int32) : List Int32 :=
  if k = 9 then rd p else if p = q ∨ (k = 7 ∧ cq &&& (cp ^^^ (-1)) = nI 0) then p
  else if k ≠ 7 ∧ p.head? = some (nI 9) ∧ q.head? = some (nI 9) then nI 9 :: nI k :: (p.tail ++ q.tail) else nI k :: (p ++ q)
def ro (N : nod) (n : Nat) : List Int32 := nI (nK N n) :: nI (nC N n) :: (if nK N n < 2 then [] else if nK N n = 2 then [nA N n] else if nK N n = 3 then [nA N n, nB N n] else [nI n])
def rf (N : nod) (cols : Nat → Int32) (n : Nat) : List Int32 :=
  if nK N n < 6 then ro N n else if _h : nL N n < n ∧ nQ N n < n then rt (nK N n) (cols (nL N n)) (cols (nQ N n)) (rf N cols (nL N n)) (rf N cols (nQ N n)) else []
termination_by n
decreasing_by all_goals omega
theorem rf_o {N : nod} {cols : Nat → Int32} {n : Nat} (h : nK N n < 6) : rf N cols n = ro N n := by rw [rf, if_pos h]
theorem rf_t {N : nod} {cols : Nat → Int32} {n : Nat} (h : ¬ nK N n < 6) (hc : nL N n < n ∧ nQ N n < n) : rf N cols n = rt (nK N n) (cols (nL N n)) (cols (nQ N n)) (rf N cols (nL N n)) (rf N cols (nQ N n)) := by rw [rf, if_neg h, dif_pos hc]
end
