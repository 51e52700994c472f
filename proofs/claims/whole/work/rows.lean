section
-- ===== PART A: goes FIRST, ahead of the names: the tables' words, and 'selects' of the private methods out of them =====
/-- a private method of a class that the tables say can be made, by its rows of tables_1 -/
def lw_okq (q : MethodName × Nat) : Prop := (q.1.cls ≠ "java/lang/invoke/MethodHandle" ∧ q.1.cls ≠ "java/lang/invoke/VarHandle") ∧ Cond.instantiable q.1.cls q.2 ∈ tables_1 ∧ Cond.privateMethod q.1 ∈ tables_1 ∧ Cond.instanceMethod q.1 ∈ tables_1
theorem lw_p0 : lw_okq (⟨"PreferTable", "isNode", "(I)Z"⟩, 11) := ⟨⟨by decide +kernel, by decide +kernel⟩, List.mem_of_getElem? (i := 22) (by decide +kernel), List.mem_of_getElem? (i := 202) (by decide +kernel), List.mem_of_getElem? (i := 203) (by decide +kernel)⟩
theorem lw_p1 : lw_okq (⟨"PreferTable", "isSaved", "(I)Z"⟩, 11) := ⟨⟨by decide +kernel, by decide +kernel⟩, List.mem_of_getElem? (i := 22) (by decide +kernel), List.mem_of_getElem? (i := 234) (by decide +kernel), List.mem_of_getElem? (i := 235) (by decide +kernel)⟩
theorem lw_p2 : lw_okq (⟨"PreferTable", "keepUp", "(LPreferTable$Question;)V"⟩, 11) := ⟨⟨by decide +kernel, by decide +kernel⟩, List.mem_of_getElem? (i := 22) (by decide +kernel), List.mem_of_getElem? (i := 241) (by decide +kernel), List.mem_of_getElem? (i := 242) (by decide +kernel)⟩
theorem lw_p3 : lw_okq (⟨"PreferTable$Contest", "letIn", "(LPreferTable$Rows;LPreferTable$Conditions;)V"⟩, 3) := ⟨⟨by decide +kernel, by decide +kernel⟩, List.mem_of_getElem? (i := 78) (by decide +kernel), List.mem_of_getElem? (i := 249) (by decide +kernel), List.mem_of_getElem? (i := 250) (by decide +kernel)⟩
theorem lw_p4 : lw_okq (⟨"PreferTable$Layers", "find", "(I)I"⟩, 6) := ⟨⟨by decide +kernel, by decide +kernel⟩, List.mem_of_getElem? (i := 285) (by decide +kernel), List.mem_of_getElem? (i := 283) (by decide +kernel), List.mem_of_getElem? (i := 284) (by decide +kernel)⟩
theorem lw_p5 : lw_okq (⟨"PreferTable$ValueOrder", "distance", "(I)J"⟩, 7) := ⟨⟨by decide +kernel, by decide +kernel⟩, List.mem_of_getElem? (i := 294) (by decide +kernel), List.mem_of_getElem? (i := 292) (by decide +kernel), List.mem_of_getElem? (i := 293) (by decide +kernel)⟩
theorem lw_p6 : lw_okq (⟨"PreferTable$Contest", "note", "(III)V"⟩, 3) := ⟨⟨by decide +kernel, by decide +kernel⟩, List.mem_of_getElem? (i := 78) (by decide +kernel), List.mem_of_getElem? (i := 309) (by decide +kernel), List.mem_of_getElem? (i := 310) (by decide +kernel)⟩
theorem lw_p7 : lw_okq (⟨"PreferTable", "markRead", "(LPreferTable$Question;)V"⟩, 11) := ⟨⟨by decide +kernel, by decide +kernel⟩, List.mem_of_getElem? (i := 22) (by decide +kernel), List.mem_of_getElem? (i := 329) (by decide +kernel), List.mem_of_getElem? (i := 330) (by decide +kernel)⟩
theorem lw_p8 : lw_okq (⟨"java/lang/Throwable", "fillInStackTrace", "(I)Ljava/lang/Throwable;"⟩, 6) := ⟨⟨by decide +kernel, by decide +kernel⟩, List.mem_of_getElem? (i := 388) (by decide +kernel), List.mem_of_getElem? (i := 386) (by decide +kernel), List.mem_of_getElem? (i := 387) (by decide +kernel)⟩
theorem lw_p9 : lw_okq (⟨"PreferTable", "newOrder", "(IIII)LPreferTable$Node;"⟩, 11) := ⟨⟨by decide +kernel, by decide +kernel⟩, List.mem_of_getElem? (i := 22) (by decide +kernel), List.mem_of_getElem? (i := 471) (by decide +kernel), List.mem_of_getElem? (i := 472) (by decide +kernel)⟩
theorem lw_p10 : lw_okq (⟨"PreferTable", "addNode", "(LPreferTable$Node;)I"⟩, 11) := ⟨⟨by decide +kernel, by decide +kernel⟩, List.mem_of_getElem? (i := 22) (by decide +kernel), List.mem_of_getElem? (i := 552) (by decide +kernel), List.mem_of_getElem? (i := 553) (by decide +kernel)⟩
theorem lw_p11 : lw_okq (⟨"PreferTable", "addEdge", "(LPreferTable$Graph;II)Z"⟩, 11) := ⟨⟨by decide +kernel, by decide +kernel⟩, List.mem_of_getElem? (i := 22) (by decide +kernel), List.mem_of_getElem? (i := 564) (by decide +kernel), List.mem_of_getElem? (i := 565) (by decide +kernel)⟩
theorem lw_p12 : lw_okq (⟨"PreferTable$Contest", "setLevel", "(II)V"⟩, 3) := ⟨⟨by decide +kernel, by decide +kernel⟩, List.mem_of_getElem? (i := 78) (by decide +kernel), List.mem_of_getElem? (i := 663) (by decide +kernel), List.mem_of_getElem? (i := 664) (by decide +kernel)⟩
theorem lw_p13 : lw_okq (⟨"PreferTable$Contest", "unbeatenAmong", "(I)I"⟩, 3) := ⟨⟨by decide +kernel, by decide +kernel⟩, List.mem_of_getElem? (i := 78) (by decide +kernel), List.mem_of_getElem? (i := 667) (by decide +kernel), List.mem_of_getElem? (i := 668) (by decide +kernel)⟩
theorem lw_p14 : lw_okq (⟨"PreferTable$Term", "pDecidesAlone", "()Z"⟩, 6) := ⟨⟨by decide +kernel, by decide +kernel⟩, List.mem_of_getElem? (i := 591) (by decide +kernel), List.mem_of_getElem? (i := 751) (by decide +kernel), List.mem_of_getElem? (i := 752) (by decide +kernel)⟩
theorem lw_p15 : lw_okq (⟨"PreferTableModel", "present", "()I"⟩, 34) := ⟨⟨by decide +kernel, by decide +kernel⟩, List.mem_of_getElem? (i := 767) (by decide +kernel), List.mem_of_getElem? (i := 885) (by decide +kernel), List.mem_of_getElem? (i := 886) (by decide +kernel)⟩
def lw_privs_1 : List (MethodName × Nat) := [(⟨"PreferTable", "isNode", "(I)Z"⟩, 11), (⟨"PreferTable", "isSaved", "(I)Z"⟩, 11), (⟨"PreferTable", "keepUp", "(LPreferTable$Question;)V"⟩, 11), (⟨"PreferTable$Contest", "letIn", "(LPreferTable$Rows;LPreferTable$Conditions;)V"⟩, 3), (⟨"PreferTable$Layers", "find", "(I)I"⟩, 6), (⟨"PreferTable$ValueOrder", "distance", "(I)J"⟩, 7), (⟨"PreferTable$Contest", "note", "(III)V"⟩, 3), (⟨"PreferTable", "markRead", "(LPreferTable$Question;)V"⟩, 11), (⟨"java/lang/Throwable", "fillInStackTrace", "(I)Ljava/lang/Throwable;"⟩, 6), (⟨"PreferTable", "newOrder", "(IIII)LPreferTable$Node;"⟩, 11), (⟨"PreferTable", "addNode", "(LPreferTable$Node;)I"⟩, 11), (⟨"PreferTable", "addEdge", "(LPreferTable$Graph;II)Z"⟩, 11), (⟨"PreferTable$Contest", "setLevel", "(II)V"⟩, 3), (⟨"PreferTable$Contest", "unbeatenAmong", "(I)I"⟩, 3), (⟨"PreferTable$Term", "pDecidesAlone", "()Z"⟩, 6), (⟨"PreferTableModel", "present", "()I"⟩, 34)]
theorem lw_r1 : ∀ q ∈ lw_privs_1, lw_okq q := List.forall_mem_cons.mpr ⟨lw_p0, List.forall_mem_cons.mpr ⟨lw_p1, List.forall_mem_cons.mpr ⟨lw_p2, List.forall_mem_cons.mpr ⟨lw_p3, List.forall_mem_cons.mpr ⟨lw_p4, List.forall_mem_cons.mpr ⟨lw_p5, List.forall_mem_cons.mpr ⟨lw_p6, List.forall_mem_cons.mpr ⟨lw_p7, List.forall_mem_cons.mpr ⟨lw_p8, List.forall_mem_cons.mpr ⟨lw_p9, List.forall_mem_cons.mpr ⟨lw_p10, List.forall_mem_cons.mpr ⟨lw_p11, List.forall_mem_cons.mpr ⟨lw_p12, List.forall_mem_cons.mpr ⟨lw_p13, List.forall_mem_cons.mpr ⟨lw_p14, List.forall_mem_cons.mpr ⟨lw_p15, fun _ h => absurd h List.not_mem_nil⟩⟩⟩⟩⟩⟩⟩⟩⟩⟩⟩⟩⟩⟩⟩⟩
theorem lw_p16 : lw_okq (⟨"PreferTableModel", "isRow", "(I)Z"⟩, 34) := ⟨⟨by decide +kernel, by decide +kernel⟩, List.mem_of_getElem? (i := 767) (by decide +kernel), List.mem_of_getElem? (i := 893) (by decide +kernel), List.mem_of_getElem? (i := 894) (by decide +kernel)⟩
theorem lw_p17 : lw_okq (⟨"PreferTableModel", "isNode", "(I)Z"⟩, 34) := ⟨⟨by decide +kernel, by decide +kernel⟩, List.mem_of_getElem? (i := 767) (by decide +kernel), List.mem_of_getElem? (i := 916) (by decide +kernel), List.mem_of_getElem? (i := 917) (by decide +kernel)⟩
theorem lw_p18 : lw_okq (⟨"PreferTableModel", "reached", "(II)I"⟩, 34) := ⟨⟨by decide +kernel, by decide +kernel⟩, List.mem_of_getElem? (i := 767) (by decide +kernel), List.mem_of_getElem? (i := 927) (by decide +kernel), List.mem_of_getElem? (i := 928) (by decide +kernel)⟩
theorem lw_p19 : lw_okq (⟨"PreferTableModel", "say", "(III)I"⟩, 34) := ⟨⟨by decide +kernel, by decide +kernel⟩, List.mem_of_getElem? (i := 767) (by decide +kernel), List.mem_of_getElem? (i := 939) (by decide +kernel), List.mem_of_getElem? (i := 940) (by decide +kernel)⟩
theorem lw_p20 : lw_okq (⟨"PreferTableModel", "ordered", "(III)I"⟩, 34) := ⟨⟨by decide +kernel, by decide +kernel⟩, List.mem_of_getElem? (i := 767) (by decide +kernel), List.mem_of_getElem? (i := 943) (by decide +kernel), List.mem_of_getElem? (i := 944) (by decide +kernel)⟩
theorem lw_p21 : lw_okq (⟨"PreferTableModel", "depth", "(II)J"⟩, 34) := ⟨⟨by decide +kernel, by decide +kernel⟩, List.mem_of_getElem? (i := 767) (by decide +kernel), List.mem_of_getElem? (i := 950) (by decide +kernel), List.mem_of_getElem? (i := 951) (by decide +kernel)⟩
theorem lw_p22 : lw_okq (⟨"PreferTableModel", "graph", "(III)I"⟩, 34) := ⟨⟨by decide +kernel, by decide +kernel⟩, List.mem_of_getElem? (i := 767) (by decide +kernel), List.mem_of_getElem? (i := 955) (by decide +kernel), List.mem_of_getElem? (i := 956) (by decide +kernel)⟩
theorem lw_p23 : lw_okq (⟨"PreferTableModel", "distance", "(II)J"⟩, 34) := ⟨⟨by decide +kernel, by decide +kernel⟩, List.mem_of_getElem? (i := 767) (by decide +kernel), List.mem_of_getElem? (i := 959) (by decide +kernel), List.mem_of_getElem? (i := 960) (by decide +kernel)⟩
theorem lw_p24 : lw_okq (⟨"PreferTableModel", "joined", "(III)I"⟩, 34) := ⟨⟨by decide +kernel, by decide +kernel⟩, List.mem_of_getElem? (i := 767) (by decide +kernel), List.mem_of_getElem? (i := 963) (by decide +kernel), List.mem_of_getElem? (i := 964) (by decide +kernel)⟩
theorem lw_p25 : lw_okq (⟨"PreferTableModel", "mark", "(III)I"⟩, 34) := ⟨⟨by decide +kernel, by decide +kernel⟩, List.mem_of_getElem? (i := 767) (by decide +kernel), List.mem_of_getElem? (i := 982) (by decide +kernel), List.mem_of_getElem? (i := 983) (by decide +kernel)⟩
theorem lw_p26 : lw_okq (⟨"PreferTableModel", "passes", "(II)Z"⟩, 34) := ⟨⟨by decide +kernel, by decide +kernel⟩, List.mem_of_getElem? (i := 767) (by decide +kernel), List.mem_of_getElem? (i := 986) (by decide +kernel), List.mem_of_getElem? (i := 987) (by decide +kernel)⟩
theorem lw_p27 : lw_okq (⟨"PreferTableModel", "answerBest", "()I"⟩, 34) := ⟨⟨by decide +kernel, by decide +kernel⟩, List.mem_of_getElem? (i := 767) (by decide +kernel), List.mem_of_getElem? (i := 993) (by decide +kernel), List.mem_of_getElem? (i := 994) (by decide +kernel)⟩
theorem lw_p28 : lw_okq (⟨"PreferTableModel", "weigh", "(I)V"⟩, 34) := ⟨⟨by decide +kernel, by decide +kernel⟩, List.mem_of_getElem? (i := 767) (by decide +kernel), List.mem_of_getElem? (i := 1005) (by decide +kernel), List.mem_of_getElem? (i := 1006) (by decide +kernel)⟩
theorem lw_p29 : lw_okq (⟨"PreferTableModel", "readNow", "(I)I"⟩, 34) := ⟨⟨by decide +kernel, by decide +kernel⟩, List.mem_of_getElem? (i := 767) (by decide +kernel), List.mem_of_getElem? (i := 1025) (by decide +kernel), List.mem_of_getElem? (i := 1026) (by decide +kernel)⟩
theorem lw_p30 : lw_okq (⟨"PreferTableModel", "reducedOrder", "(I)I"⟩, 34) := ⟨⟨by decide +kernel, by decide +kernel⟩, List.mem_of_getElem? (i := 767) (by decide +kernel), List.mem_of_getElem? (i := 1041) (by decide +kernel), List.mem_of_getElem? (i := 1042) (by decide +kernel)⟩
theorem lw_p31 : lw_okq (⟨"PreferTableModel", "place", "(IIII)I"⟩, 34) := ⟨⟨by decide +kernel, by decide +kernel⟩, List.mem_of_getElem? (i := 767) (by decide +kernel), List.mem_of_getElem? (i := 1045) (by decide +kernel), List.mem_of_getElem? (i := 1046) (by decide +kernel)⟩
def lw_privs_2 : List (MethodName × Nat) := [(⟨"PreferTableModel", "isRow", "(I)Z"⟩, 34), (⟨"PreferTableModel", "isNode", "(I)Z"⟩, 34), (⟨"PreferTableModel", "reached", "(II)I"⟩, 34), (⟨"PreferTableModel", "say", "(III)I"⟩, 34), (⟨"PreferTableModel", "ordered", "(III)I"⟩, 34), (⟨"PreferTableModel", "depth", "(II)J"⟩, 34), (⟨"PreferTableModel", "graph", "(III)I"⟩, 34), (⟨"PreferTableModel", "distance", "(II)J"⟩, 34), (⟨"PreferTableModel", "joined", "(III)I"⟩, 34), (⟨"PreferTableModel", "mark", "(III)I"⟩, 34), (⟨"PreferTableModel", "passes", "(II)Z"⟩, 34), (⟨"PreferTableModel", "answerBest", "()I"⟩, 34), (⟨"PreferTableModel", "weigh", "(I)V"⟩, 34), (⟨"PreferTableModel", "readNow", "(I)I"⟩, 34), (⟨"PreferTableModel", "reducedOrder", "(I)I"⟩, 34), (⟨"PreferTableModel", "place", "(IIII)I"⟩, 34)]
theorem lw_r2 : ∀ q ∈ lw_privs_2, lw_okq q := List.forall_mem_cons.mpr ⟨lw_p16, List.forall_mem_cons.mpr ⟨lw_p17, List.forall_mem_cons.mpr ⟨lw_p18, List.forall_mem_cons.mpr ⟨lw_p19, List.forall_mem_cons.mpr ⟨lw_p20, List.forall_mem_cons.mpr ⟨lw_p21, List.forall_mem_cons.mpr ⟨lw_p22, List.forall_mem_cons.mpr ⟨lw_p23, List.forall_mem_cons.mpr ⟨lw_p24, List.forall_mem_cons.mpr ⟨lw_p25, List.forall_mem_cons.mpr ⟨lw_p26, List.forall_mem_cons.mpr ⟨lw_p27, List.forall_mem_cons.mpr ⟨lw_p28, List.forall_mem_cons.mpr ⟨lw_p29, List.forall_mem_cons.mpr ⟨lw_p30, List.forall_mem_cons.mpr ⟨lw_p31, fun _ h => absurd h List.not_mem_nil⟩⟩⟩⟩⟩⟩⟩⟩⟩⟩⟩⟩⟩⟩⟩⟩
theorem lw_p32 : lw_okq (⟨"PreferTableModel", "reducedTerm", "(III)I"⟩, 34) := ⟨⟨by decide +kernel, by decide +kernel⟩, List.mem_of_getElem? (i := 767) (by decide +kernel), List.mem_of_getElem? (i := 1049) (by decide +kernel), List.mem_of_getElem? (i := 1050) (by decide +kernel)⟩
theorem lw_p33 : lw_okq (⟨"PreferTableModel", "dual", "(I)I"⟩, 34) := ⟨⟨by decide +kernel, by decide +kernel⟩, List.mem_of_getElem? (i := 767) (by decide +kernel), List.mem_of_getElem? (i := 1053) (by decide +kernel), List.mem_of_getElem? (i := 1054) (by decide +kernel)⟩
theorem lw_p34 : lw_okq (⟨"PreferTableModel", "write", "(I)V"⟩, 34) := ⟨⟨by decide +kernel, by decide +kernel⟩, List.mem_of_getElem? (i := 767) (by decide +kernel), List.mem_of_getElem? (i := 1057) (by decide +kernel), List.mem_of_getElem? (i := 1058) (by decide +kernel)⟩
theorem lw_p35 : lw_okq (⟨"PreferTableModel", "emit", "(I)V"⟩, 34) := ⟨⟨by decide +kernel, by decide +kernel⟩, List.mem_of_getElem? (i := 767) (by decide +kernel), List.mem_of_getElem? (i := 1061) (by decide +kernel), List.mem_of_getElem? (i := 1062) (by decide +kernel)⟩
def lw_privs_3 : List (MethodName × Nat) := [(⟨"PreferTableModel", "reducedTerm", "(III)I"⟩, 34), (⟨"PreferTableModel", "dual", "(I)I"⟩, 34), (⟨"PreferTableModel", "write", "(I)V"⟩, 34), (⟨"PreferTableModel", "emit", "(I)V"⟩, 34)]
theorem lw_r3 : ∀ q ∈ lw_privs_3, lw_okq q := List.forall_mem_cons.mpr ⟨lw_p32, List.forall_mem_cons.mpr ⟨lw_p33, List.forall_mem_cons.mpr ⟨lw_p34, List.forall_mem_cons.mpr ⟨lw_p35, fun _ h => absurd h List.not_mem_nil⟩⟩⟩⟩
def lw_privs : List (MethodName × Nat) := lw_privs_1 ++ (lw_privs_2 ++ (lw_privs_3))
def lw_tbl : List Cond := k2_sels lw_privs ++ tables_1
theorem lw_privs_ok : ∀ q ∈ lw_privs, lw_okq q := by
  show ∀ q ∈ lw_privs_1 ++ (lw_privs_2 ++ (lw_privs_3)), lw_okq q
  exact List.forall_mem_append.mpr ⟨lw_r1, List.forall_mem_append.mpr ⟨lw_r2, lw_r3⟩⟩
end
section
/-! Places in the tables; methods by name, bytes, number of locals, what they return, handlers; decode tables (written by gen_lean.py). -/
theorem ev_memS (i : Nat) {w : Cond} (h : (k2_sels lw_privs)[i]? = some w) : w ∈ lw_tbl := List.mem_append_left _ (List.mem_of_getElem? h)
theorem ev_mem (i : Nat) {w : Cond} (h : tables_1[i]? = some w) : w ∈ lw_tbl := List.mem_append_right _ (List.mem_of_getElem? h)
/-- a method: name, bytes, number of locals, what it returns, handlers -/
abbrev ev_M : Type := MethodName × ByteArray × Nat × Option FieldType × List (Nat × Nat × Nat × Nat)
abbrev ev_tab : Type := List (Nat × Instr × Nat × Nat)
abbrev ev_dall (M : ev_M) (t : ev_tab) : Prop := ∀ q ∈ t, decode M.2.1 q.1 = .ok (q.2.1, q.2.2.1) ∧ q.1 + q.2.2.1 = q.2.2.2
def m_PT_init : ev_M := (⟨"PreferTable", "<init>", "()V"⟩, prog_1_method_1_code, 2, Option.none, [])
def m_Rows_init : ev_M := (⟨"PreferTable$Rows", "<init>", "()V"⟩, prog_10_method_1_code, 1, Option.none, [])
def m_Conditions_init : ev_M := (⟨"PreferTable$Conditions", "<init>", "()V"⟩, prog_2_method_1_code, 1, Option.none, [])
def m_Contest_init : ev_M := (⟨"PreferTable$Contest", "<init>", "()V"⟩, prog_3_method_1_code, 1, Option.none, [])
def m_RowList_init : ev_M := (⟨"PreferTable$RowList", "<init>", "()V"⟩, prog_9_method_1_code, 1, Option.none, [])
def m_Question_init : ev_M := (⟨"PreferTable$Question", "<init>", "()V"⟩, prog_8_method_1_code, 1, Option.none, [])
def m_PT_change : ev_M := (⟨"PreferTable", "change", "(III)Z"⟩, prog_1_method_3_code, 5, (Option.some Jvm.ClassFile.FieldType.boolean), [])
def m_Rows_placeOf : ev_M := (⟨"PreferTable$Rows", "placeOf", "(I)I"⟩, prog_10_method_4_code, 3, (Option.some Jvm.ClassFile.FieldType.int), [])
def m_PT_isColumn : ev_M := (⟨"PreferTable", "isColumn", "(I)Z"⟩, prog_1_method_24_code, 1, (Option.some Jvm.ClassFile.FieldType.boolean), [])
def m_PT_remove : ev_M := (⟨"PreferTable", "remove", "(I)Z"⟩, prog_1_method_4_code, 3, (Option.some Jvm.ClassFile.FieldType.boolean), [])
def m_Rows_drop : ev_M := (⟨"PreferTable$Rows", "drop", "(I)V"⟩, prog_10_method_5_code, 3, Option.none, [])
def m_PT_layer : ev_M := (⟨"PreferTable", "layer", "(III)Z"⟩, prog_1_method_7_code, 6, (Option.some Jvm.ClassFile.FieldType.boolean), [])
def m_PT_isNode : ev_M := (⟨"PreferTable", "isNode", "(I)Z"⟩, prog_1_method_26_code, 2, (Option.some Jvm.ClassFile.FieldType.boolean), [])
def m_PT_isGraded : ev_M := (⟨"PreferTable", "isGraded", "(I)Z"⟩, prog_1_method_25_code, 1, (Option.some Jvm.ClassFile.FieldType.boolean), [])
def m_PT_free : ev_M := (⟨"PreferTable", "free", "()V"⟩, prog_1_method_11_code, 1, Option.none, [])
def m_Conditions_clear : ev_M := (⟨"PreferTable$Conditions", "clear", "()V"⟩, prog_2_method_2_code, 1, Option.none, [])
def m_PT_answer : ev_M := (⟨"PreferTable", "answer", "(I)I"⟩, prog_1_method_17_code, 2, (Option.some Jvm.ClassFile.FieldType.int), [])
def m_RowList_pick : ev_M := (⟨"PreferTable$RowList", "pick", "(LPreferTable$RowList;I)I"⟩, prog_9_method_6_code, 5, (Option.some Jvm.ClassFile.FieldType.int), [])
def m_RowList_has : ev_M := (⟨"PreferTable$RowList", "has", "(I)Z"⟩, prog_9_method_5_code, 3, (Option.some Jvm.ClassFile.FieldType.boolean), [])
def m_PT_saved : ev_M := (⟨"PreferTable", "saved", "(III)I"⟩, prog_1_method_20_code, 5, (Option.some Jvm.ClassFile.FieldType.int), [])
def m_PT_isSaved : ev_M := (⟨"PreferTable", "isSaved", "(I)Z"⟩, prog_1_method_28_code, 2, (Option.some Jvm.ClassFile.FieldType.boolean), [])
def m_PT_isQuestion : ev_M := (⟨"PreferTable", "isQuestion", "(I)Z"⟩, prog_1_method_27_code, 1, (Option.some Jvm.ClassFile.FieldType.boolean), [])
def m_PT_keepUp : ev_M := (⟨"PreferTable", "keepUp", "(LPreferTable$Question;)V"⟩, prog_1_method_33_code, 2, Option.none, [])
def m_Contest_hold : ev_M := (⟨"PreferTable$Contest", "hold", "(LPreferTable$Rows;LPreferTable$Node;LPreferTable$Conditions;)V"⟩, prog_3_method_2_code, 6, Option.none, [])
def m_Contest_letIn : ev_M := (⟨"PreferTable$Contest", "letIn", "(LPreferTable$Rows;LPreferTable$Conditions;)V"⟩, prog_3_method_3_code, 4, Option.none, [])
def m_Conditions_pass : ev_M := (⟨"PreferTable$Conditions", "pass", "([I)Z"⟩, prog_2_method_5_code, 3, (Option.some Jvm.ClassFile.FieldType.boolean), [])
def m_Conditions_holds : ev_M := (⟨"PreferTable$Conditions", "holds", "(III)Z"⟩, prog_2_method_6_code, 3, (Option.some Jvm.ClassFile.FieldType.boolean), [])
def m_Contest_isIn : ev_M := (⟨"PreferTable$Contest", "isIn", "(II)Z"⟩, prog_3_method_5_code, 2, (Option.some Jvm.ClassFile.FieldType.boolean), [])
def m_Order_says : ev_M := (⟨"PreferTable$Order", "says", "([I[I)I"⟩, prog_7_method_2_code, 5, (Option.some Jvm.ClassFile.FieldType.int), [])
def m_Graph_prefers : ev_M := (⟨"PreferTable$Graph", "prefers", "(II)Z"⟩, prog_4_method_2_code, 3, (Option.some Jvm.ClassFile.FieldType.boolean), [])
def m_Graph_leads : ev_M := (⟨"PreferTable$Graph", "leads", "(II)Z"⟩, prog_4_method_3_code, 3, (Option.some Jvm.ClassFile.FieldType.boolean), [])
def m_Layers_prefers : ev_M := (⟨"PreferTable$Layers", "prefers", "(II)Z"⟩, prog_5_method_2_code, 5, (Option.some Jvm.ClassFile.FieldType.boolean), [])
def m_Layers_find : ev_M := (⟨"PreferTable$Layers", "find", "(I)I"⟩, prog_5_method_3_code, 2, (Option.some Jvm.ClassFile.FieldType.int), [])
def m_ValueOrder_prefers : ev_M := (⟨"PreferTable$ValueOrder", "prefers", "(II)Z"⟩, prog_12_method_2_code, 3, (Option.some Jvm.ClassFile.FieldType.boolean), [])
def m_ValueOrder_distance : ev_M := (⟨"PreferTable$ValueOrder", "distance", "(I)J"⟩, prog_12_method_3_code, 2, (Option.some Jvm.ClassFile.FieldType.long), [])
def m_Term_says : ev_M := (⟨"PreferTable$Term", "says", "([I[I)I"⟩, prog_11_method_3_code, 5, (Option.some Jvm.ClassFile.FieldType.int), [])
def m_Term_changedOver : ev_M := (⟨"PreferTable$Term", "changedOver", "(I)I"⟩, prog_11_method_4_code, 1, (Option.some Jvm.ClassFile.FieldType.int), [])
def m_Term_paretoOf : ev_M := (⟨"PreferTable$Term", "paretoOf", "(II)I"⟩, prog_11_method_5_code, 2, (Option.some Jvm.ClassFile.FieldType.int), [])
def m_Contest_note : ev_M := (⟨"PreferTable$Contest", "note", "(III)V"⟩, prog_3_method_4_code, 4, Option.none, [])
def m_Contest_listUnbeaten : ev_M := (⟨"PreferTable$Contest", "listUnbeaten", "(LPreferTable$Rows;LPreferTable$RowList;)V"⟩, prog_3_method_7_code, 4, Option.none, [])
def m_RowList_clear : ev_M := (⟨"PreferTable$RowList", "clear", "()V"⟩, prog_9_method_2_code, 1, Option.none, [])
def m_RowList_add : ev_M := (⟨"PreferTable$RowList", "add", "(I)V"⟩, prog_9_method_3_code, 2, Option.none, [])
def m_PT_read : ev_M := (⟨"PreferTable", "read", "(I)Z"⟩, prog_1_method_21_code, 2, (Option.some Jvm.ClassFile.FieldType.boolean), [])
def m_PT_markRead : ev_M := (⟨"PreferTable", "markRead", "(LPreferTable$Question;)V"⟩, prog_1_method_34_code, 2, Option.none, [])
def m_RowList_copyFrom : ev_M := (⟨"PreferTable$RowList", "copyFrom", "(LPreferTable$RowList;)V"⟩, prog_9_method_4_code, 2, Option.none, [])
def m_Lw_row : ev_M := (⟨"PreferTableLaw", "row", "(LPreferTable;IIII[J)I"⟩, method_3_code, 7, (Option.some Jvm.ClassFile.FieldType.int), [(0, 14, 17, 13)])
def m_PT_row : ev_M := (⟨"PreferTable", "row", "(IIII)I"⟩, prog_1_method_2_code, 5, (Option.some Jvm.ClassFile.FieldType.int), [])
def m_Rows_isFull : ev_M := (⟨"PreferTable$Rows", "isFull", "()Z"⟩, prog_10_method_2_code, 1, (Option.some Jvm.ClassFile.FieldType.boolean), [])
def m_Rows_add : ev_M := (⟨"PreferTable$Rows", "add", "(IIII)I"⟩, prog_10_method_3_code, 6, (Option.some Jvm.ClassFile.FieldType.int), [])
def m_Lw_value : ev_M := (⟨"PreferTableLaw", "value", "(LPreferTable;II[J)I"⟩, method_4_code, 5, (Option.some Jvm.ClassFile.FieldType.int), [(0, 10, 13, 19)])
def m_PT_value : ev_M := (⟨"PreferTable", "value", "(II)I"⟩, prog_1_method_5_code, 4, (Option.some Jvm.ClassFile.FieldType.int), [])
def m_Lw_order : ev_M := (⟨"PreferTableLaw", "order", "(LPreferTable;IIII[J)I"⟩, method_5_code, 7, (Option.some Jvm.ClassFile.FieldType.int), [(0, 14, 17, 24), (0, 14, 21, 13)])
def m_PT_order : ev_M := (⟨"PreferTable", "order", "(IIII)I"⟩, prog_1_method_6_code, 5, (Option.some Jvm.ClassFile.FieldType.int), [])
def m_PT_newOrder : ev_M := (⟨"PreferTable", "newOrder", "(IIII)LPreferTable$Node;"⟩, prog_1_method_29_code, 5, (Option.some (Jvm.ClassFile.FieldType.object "PreferTable$Node")), [])
def m_Layers_init : ev_M := (⟨"PreferTable$Layers", "<init>", "(II)V"⟩, prog_5_method_1_code, 4, Option.none, [])
def m_Order_init : ev_M := (⟨"PreferTable$Order", "<init>", "(III)V"⟩, prog_7_method_1_code, 4, Option.none, [])
def m_Node_init : ev_M := (⟨"PreferTable$Node", "<init>", "(IIII)V"⟩, prog_6_method_1_code, 5, Option.none, [])
def m_Graph_init : ev_M := (⟨"PreferTable$Graph", "<init>", "(II)V"⟩, prog_4_method_1_code, 3, Option.none, [])
def m_ValueOrder_init : ev_M := (⟨"PreferTable$ValueOrder", "<init>", "(IIIII)V"⟩, prog_12_method_1_code, 6, Option.none, [])
def m_PT_addNode : ev_M := (⟨"PreferTable", "addNode", "(LPreferTable$Node;)I"⟩, prog_1_method_30_code, 2, (Option.some Jvm.ClassFile.FieldType.int), [])
def m_Lw_edge : ev_M := (⟨"PreferTableLaw", "edge", "(LPreferTable;III[J)I"⟩, method_6_code, 6, (Option.some Jvm.ClassFile.FieldType.int), [(0, 19, 22, 24), (0, 19, 26, 13)])
def m_PT_edge : ev_M := (⟨"PreferTable", "edge", "(III)Z"⟩, prog_1_method_8_code, 6, (Option.some Jvm.ClassFile.FieldType.boolean), [])
def m_PT_addEdge : ev_M := (⟨"PreferTable", "addEdge", "(LPreferTable$Graph;II)Z"⟩, prog_1_method_31_code, 4, (Option.some Jvm.ClassFile.FieldType.boolean), [])
def m_Graph_hasEdge : ev_M := (⟨"PreferTable$Graph", "hasEdge", "(II)Z"⟩, prog_4_method_4_code, 3, (Option.some Jvm.ClassFile.FieldType.boolean), [])
def m_Graph_join : ev_M := (⟨"PreferTable$Graph", "join", "(II)V"⟩, prog_4_method_5_code, 5, Option.none, [])
def m_Lw_term : ev_M := (⟨"PreferTableLaw", "term", "(LPreferTable;III[J)I"⟩, method_7_code, 6, (Option.some Jvm.ClassFile.FieldType.int), [(0, 12, 15, 24), (0, 12, 19, 13)])
def m_PT_term : ev_M := (⟨"PreferTable", "term", "(III)I"⟩, prog_1_method_9_code, 6, (Option.some Jvm.ClassFile.FieldType.int), [])
def m_Term_sizeOf : ev_M := (⟨"PreferTable$Term", "sizeOf", "(ILPreferTable$Node;LPreferTable$Node;)I"⟩, prog_11_method_2_code, 3, (Option.some Jvm.ClassFile.FieldType.int), [])
def m_Term_init : ev_M := (⟨"PreferTable$Term", "<init>", "(IILPreferTable$Node;LPreferTable$Node;)V"⟩, prog_11_method_1_code, 5, Option.none, [])
def m_Lw_condition : ev_M := (⟨"PreferTableLaw", "condition", "(LPreferTable;III[J)I"⟩, method_8_code, 6, (Option.some Jvm.ClassFile.FieldType.int), [(0, 12, 15, 24), (0, 12, 19, 13)])
def m_PT_condition : ev_M := (⟨"PreferTable", "condition", "(III)I"⟩, prog_1_method_10_code, 4, (Option.some Jvm.ClassFile.FieldType.int), [])
def m_Conditions_add : ev_M := (⟨"PreferTable$Conditions", "add", "(III)V"⟩, prog_2_method_3_code, 4, Option.none, [])
def m_Lw_compare : ev_M := (⟨"PreferTableLaw", "compare", "(LPreferTable;III[J)I"⟩, method_9_code, 6, (Option.some Jvm.ClassFile.FieldType.int), [(0, 12, 15, 19)])
def m_PT_compare : ev_M := (⟨"PreferTable", "compare", "(III)I"⟩, prog_1_method_12_code, 6, (Option.some Jvm.ClassFile.FieldType.int), [])
def m_Lw_best : ev_M := (⟨"PreferTableLaw", "best", "(LPreferTable;I[J)I"⟩, method_10_code, 4, (Option.some Jvm.ClassFile.FieldType.int), [(0, 9, 12, 19)])
def m_PT_best : ev_M := (⟨"PreferTable", "best", "(I)I"⟩, prog_1_method_13_code, 2, (Option.some Jvm.ClassFile.FieldType.int), [])
def m_Lw_grouped : ev_M := (⟨"PreferTableLaw", "grouped", "(LPreferTable;II[J)I"⟩, method_11_code, 5, (Option.some Jvm.ClassFile.FieldType.int), [(0, 10, 13, 19)])
def m_PT_grouped : ev_M := (⟨"PreferTable", "grouped", "(II)I"⟩, prog_1_method_14_code, 3, (Option.some Jvm.ClassFile.FieldType.int), [])
def m_Contest_forgetOtherGroups : ev_M := (⟨"PreferTable$Contest", "forgetOtherGroups", "(LPreferTable$Rows;I)V"⟩, prog_3_method_6_code, 5, Option.none, [])
def m_Lw_top : ev_M := (⟨"PreferTableLaw", "top", "(LPreferTable;II[J)I"⟩, method_12_code, 5, (Option.some Jvm.ClassFile.FieldType.int), [(0, 10, 13, 19), (0, 10, 17, 24)])
def m_PT_top : ev_M := (⟨"PreferTable", "top", "(II)I"⟩, prog_1_method_15_code, 3, (Option.some Jvm.ClassFile.FieldType.int), [])
def m_Contest_rank : ev_M := (⟨"PreferTable$Contest", "rank", "()V"⟩, prog_3_method_8_code, 4, Option.none, [])
def m_Contest_setLevel : ev_M := (⟨"PreferTable$Contest", "setLevel", "(II)V"⟩, prog_3_method_10_code, 4, Option.none, [])
def m_Contest_unbeatenAmong : ev_M := (⟨"PreferTable$Contest", "unbeatenAmong", "(I)I"⟩, prog_3_method_9_code, 4, (Option.some Jvm.ClassFile.FieldType.int), [])
def m_Contest_listFirst : ev_M := (⟨"PreferTable$Contest", "listFirst", "(LPreferTable$Rows;ILPreferTable$RowList;)V"⟩, prog_3_method_11_code, 6, Option.none, [])
def m_Lw_level : ev_M := (⟨"PreferTableLaw", "level", "(LPreferTable;II[J)I"⟩, method_13_code, 5, (Option.some Jvm.ClassFile.FieldType.int), [(0, 10, 13, 19)])
def m_PT_level : ev_M := (⟨"PreferTable", "level", "(II)I"⟩, prog_1_method_16_code, 4, (Option.some Jvm.ClassFile.FieldType.int), [])
def m_Lw_reason : ev_M := (⟨"PreferTableLaw", "reason", "(LPreferTable;IIII[J)I"⟩, method_14_code, 7, (Option.some Jvm.ClassFile.FieldType.int), [(0, 14, 17, 19)])
def m_PT_reason : ev_M := (⟨"PreferTable", "reason", "(IIII)I"⟩, prog_1_method_18_code, 7, (Option.some Jvm.ClassFile.FieldType.int), [])
def m_PT_walkToDecider : ev_M := (⟨"PreferTable", "walkToDecider", "(LPreferTable$Node;[I[II)I"⟩, prog_1_method_32_code, 10, (Option.some Jvm.ClassFile.FieldType.int), [])
def m_Term_partThatDecides : ev_M := (⟨"PreferTable$Term", "partThatDecides", "([I[I)LPreferTable$Node;"⟩, prog_11_method_6_code, 3, (Option.some (Jvm.ClassFile.FieldType.object "PreferTable$Node")), [])
def m_Lw_save : ev_M := (⟨"PreferTableLaw", "save", "(LPreferTable;II[J)I"⟩, method_15_code, 5, (Option.some Jvm.ClassFile.FieldType.int), [(0, 10, 13, 19)])
def m_PT_save : ev_M := (⟨"PreferTable", "save", "(II)I"⟩, prog_1_method_19_code, 4, (Option.some Jvm.ClassFile.FieldType.int), [])
def m_Question_ask : ev_M := (⟨"PreferTable$Question", "ask", "(LPreferTable$Node;LPreferTable$Conditions;)V"⟩, prog_8_method_2_code, 3, Option.none, [])
def m_Conditions_copyFrom : ev_M := (⟨"PreferTable$Conditions", "copyFrom", "(LPreferTable$Conditions;)V"⟩, prog_2_method_4_code, 3, Option.none, [])
def m_Lw_reduce : ev_M := (⟨"PreferTableLaw", "reduce", "(LPreferTable;I[J)I"⟩, method_16_code, 4, (Option.some Jvm.ClassFile.FieldType.int), [(0, 9, 12, 19)])
def m_PT_reduce : ev_M := (⟨"PreferTable", "reduce", "(I)I"⟩, prog_1_method_22_code, 2, (Option.some Jvm.ClassFile.FieldType.int), [])
def m_Order_putReduced : ev_M := (⟨"PreferTable$Order", "putReduced", "([II)I"⟩, prog_7_method_4_code, 3, (Option.some Jvm.ClassFile.FieldType.int), [])
def m_ValueOrder_putOwn : ev_M := (⟨"PreferTable$ValueOrder", "putOwn", "([II)I"⟩, prog_12_method_4_code, 3, (Option.some Jvm.ClassFile.FieldType.int), [])
def m_Order_putOwn : ev_M := (⟨"PreferTable$Order", "putOwn", "([II)I"⟩, prog_7_method_5_code, 3, (Option.some Jvm.ClassFile.FieldType.int), [])
def m_Term_putReduced : ev_M := (⟨"PreferTable$Term", "putReduced", "([II)I"⟩, prog_11_method_7_code, 5, (Option.some Jvm.ClassFile.FieldType.int), [])
def m_Term_reduceDual : ev_M := (⟨"PreferTable$Term", "reduceDual", "([III)I"⟩, prog_11_method_8_code, 4, (Option.some Jvm.ClassFile.FieldType.int), [])
def m_Term_moveBack : ev_M := (⟨"PreferTable$Term", "moveBack", "([IIII)I"⟩, prog_11_method_12_code, 4, (Option.some Jvm.ClassFile.FieldType.int), [])
def m_Term_areAlike : ev_M := (⟨"PreferTable$Term", "areAlike", "([IIII)Z"⟩, prog_11_method_9_code, 6, (Option.some Jvm.ClassFile.FieldType.boolean), [])
def m_Term_pDecidesAlone : ev_M := (⟨"PreferTable$Term", "pDecidesAlone", "()Z"⟩, prog_11_method_10_code, 1, (Option.some Jvm.ClassFile.FieldType.boolean), [])
def m_Term_pullDualOut : ev_M := (⟨"PreferTable$Term", "pullDualOut", "([IIII)I"⟩, prog_11_method_11_code, 4, (Option.some Jvm.ClassFile.FieldType.int), [])
def m_Lw_form : ev_M := (⟨"PreferTableLaw", "form", "(LPreferTable;I[J)I"⟩, method_17_code, 4, (Option.some Jvm.ClassFile.FieldType.int), [(0, 9, 12, 19)])
def m_PT_form : ev_M := (⟨"PreferTable", "form", "(I)I"⟩, prog_1_method_23_code, 2, (Option.some Jvm.ClassFile.FieldType.int), [])
def m_Md_init : ev_M := (⟨"PreferTableModel", "<init>", "()V"⟩, prog_14_method_1_code, 1, Option.none, [])
def m_Md_thrown : ev_M := (⟨"PreferTableModel", "thrown", "()I"⟩, prog_14_method_2_code, 1, (Option.some Jvm.ClassFile.FieldType.int), [])
def m_Md_row : ev_M := (⟨"PreferTableModel", "row", "(IIII)I"⟩, prog_14_method_7_code, 5, (Option.some Jvm.ClassFile.FieldType.int), [])
def m_Md_present : ev_M := (⟨"PreferTableModel", "present", "()I"⟩, prog_14_method_6_code, 3, (Option.some Jvm.ClassFile.FieldType.int), [])
def m_Md_change : ev_M := (⟨"PreferTableModel", "change", "(III)Z"⟩, prog_14_method_8_code, 4, (Option.some Jvm.ClassFile.FieldType.boolean), [])
def m_Md_isRow : ev_M := (⟨"PreferTableModel", "isRow", "(I)Z"⟩, prog_14_method_3_code, 2, (Option.some Jvm.ClassFile.FieldType.boolean), [])
def m_Md_isColumn : ev_M := (⟨"PreferTableModel", "isColumn", "(I)Z"⟩, prog_14_method_4_code, 1, (Option.some Jvm.ClassFile.FieldType.boolean), [])
def m_Md_remove : ev_M := (⟨"PreferTableModel", "remove", "(I)Z"⟩, prog_14_method_9_code, 2, (Option.some Jvm.ClassFile.FieldType.boolean), [])
def m_Md_value : ev_M := (⟨"PreferTableModel", "value", "(II)I"⟩, prog_14_method_10_code, 3, (Option.some Jvm.ClassFile.FieldType.int), [])
def m_Md_order : ev_M := (⟨"PreferTableModel", "order", "(IIII)I"⟩, prog_14_method_11_code, 6, (Option.some Jvm.ClassFile.FieldType.int), [])
def m_Md_layer : ev_M := (⟨"PreferTableModel", "layer", "(III)Z"⟩, prog_14_method_13_code, 4, (Option.some Jvm.ClassFile.FieldType.boolean), [])
def m_Md_isNode : ev_M := (⟨"PreferTableModel", "isNode", "(I)Z"⟩, prog_14_method_5_code, 2, (Option.some Jvm.ClassFile.FieldType.boolean), [])
def m_Md_isPlain : ev_M := (⟨"PreferTableModel", "isPlain", "(I)Z"⟩, prog_14_method_12_code, 1, (Option.some Jvm.ClassFile.FieldType.boolean), [])
def m_Md_edge : ev_M := (⟨"PreferTableModel", "edge", "(III)Z"⟩, prog_14_method_15_code, 4, (Option.some Jvm.ClassFile.FieldType.boolean), [])
def m_Md_reached : ev_M := (⟨"PreferTableModel", "reached", "(II)I"⟩, prog_14_method_14_code, 6, (Option.some Jvm.ClassFile.FieldType.int), [])
def m_Md_term : ev_M := (⟨"PreferTableModel", "term", "(III)I"⟩, prog_14_method_16_code, 5, (Option.some Jvm.ClassFile.FieldType.int), [])
def m_Md_compare : ev_M := (⟨"PreferTableModel", "compare", "(III)I"⟩, prog_14_method_25_code, 4, (Option.some Jvm.ClassFile.FieldType.int), [])
def m_Md_say : ev_M := (⟨"PreferTableModel", "say", "(III)I"⟩, prog_14_method_24_code, 5, (Option.some Jvm.ClassFile.FieldType.int), [])
def m_Md_ordered : ev_M := (⟨"PreferTableModel", "ordered", "(III)I"⟩, prog_14_method_21_code, 4, (Option.some Jvm.ClassFile.FieldType.int), [])
def m_Md_byLess : ev_M := (⟨"PreferTableModel", "byLess", "(JJ)I"⟩, prog_14_method_17_code, 4, (Option.some Jvm.ClassFile.FieldType.int), [])
def m_Md_depth : ev_M := (⟨"PreferTableModel", "depth", "(II)J"⟩, prog_14_method_20_code, 4, (Option.some Jvm.ClassFile.FieldType.long), [])
def m_Md_graph : ev_M := (⟨"PreferTableModel", "graph", "(III)I"⟩, prog_14_method_19_code, 4, (Option.some Jvm.ClassFile.FieldType.int), [])
def m_Md_distance : ev_M := (⟨"PreferTableModel", "distance", "(II)J"⟩, prog_14_method_18_code, 7, (Option.some Jvm.ClassFile.FieldType.long), [])
def m_Md_joined : ev_M := (⟨"PreferTableModel", "joined", "(III)I"⟩, prog_14_method_23_code, 5, (Option.some Jvm.ClassFile.FieldType.int), [])
def m_Md_pareto : ev_M := (⟨"PreferTableModel", "pareto", "(II)I"⟩, prog_14_method_22_code, 2, (Option.some Jvm.ClassFile.FieldType.int), [])
def m_Md_condition : ev_M := (⟨"PreferTableModel", "condition", "(III)I"⟩, prog_14_method_26_code, 5, (Option.some Jvm.ClassFile.FieldType.int), [])
def m_Md_free : ev_M := (⟨"PreferTableModel", "free", "()V"⟩, prog_14_method_27_code, 1, Option.none, [])
def m_Md_best : ev_M := (⟨"PreferTableModel", "best", "(I)I"⟩, prog_14_method_32_code, 3, (Option.some Jvm.ClassFile.FieldType.int), [])
def m_Md_mark : ev_M := (⟨"PreferTableModel", "mark", "(III)I"⟩, prog_14_method_30_code, 8, (Option.some Jvm.ClassFile.FieldType.int), [])
def m_Md_passes : ev_M := (⟨"PreferTableModel", "passes", "(II)Z"⟩, prog_14_method_29_code, 5, (Option.some Jvm.ClassFile.FieldType.boolean), [])
def m_Md_holds : ev_M := (⟨"PreferTableModel", "holds", "(III)Z"⟩, prog_14_method_28_code, 3, (Option.some Jvm.ClassFile.FieldType.boolean), [])
def m_Md_answerBest : ev_M := (⟨"PreferTableModel", "answerBest", "()I"⟩, prog_14_method_31_code, 2, (Option.some Jvm.ClassFile.FieldType.int), [])
def m_Md_grouped : ev_M := (⟨"PreferTableModel", "grouped", "(II)I"⟩, prog_14_method_33_code, 4, (Option.some Jvm.ClassFile.FieldType.int), [])
def m_Md_top : ev_M := (⟨"PreferTableModel", "top", "(II)I"⟩, prog_14_method_35_code, 5, (Option.some Jvm.ClassFile.FieldType.int), [])
def m_Md_weigh : ev_M := (⟨"PreferTableModel", "weigh", "(I)V"⟩, prog_14_method_34_code, 6, Option.none, [])
def m_Md_level : ev_M := (⟨"PreferTableModel", "level", "(II)I"⟩, prog_14_method_36_code, 3, (Option.some Jvm.ClassFile.FieldType.int), [])
def m_Md_answer : ev_M := (⟨"PreferTableModel", "answer", "(I)I"⟩, prog_14_method_37_code, 2, (Option.some Jvm.ClassFile.FieldType.int), [])
def m_Md_reason : ev_M := (⟨"PreferTableModel", "reason", "(IIII)I"⟩, prog_14_method_38_code, 12, (Option.some Jvm.ClassFile.FieldType.int), [])
def m_Md_save : ev_M := (⟨"PreferTableModel", "save", "(II)I"⟩, prog_14_method_40_code, 4, (Option.some Jvm.ClassFile.FieldType.int), [])
def m_Md_readNow : ev_M := (⟨"PreferTableModel", "readNow", "(I)I"⟩, prog_14_method_39_code, 4, (Option.some Jvm.ClassFile.FieldType.int), [])
def m_Md_saved : ev_M := (⟨"PreferTableModel", "saved", "(III)I"⟩, prog_14_method_41_code, 9, (Option.some Jvm.ClassFile.FieldType.int), [])
def m_Md_read : ev_M := (⟨"PreferTableModel", "read", "(I)Z"⟩, prog_14_method_42_code, 3, (Option.some Jvm.ClassFile.FieldType.boolean), [])
def m_Md_reduce : ev_M := (⟨"PreferTableModel", "reduce", "(I)I"⟩, prog_14_method_49_code, 3, (Option.some Jvm.ClassFile.FieldType.int), [])
def m_Md_reducedOrder : ev_M := (⟨"PreferTableModel", "reducedOrder", "(I)I"⟩, prog_14_method_44_code, 4, (Option.some Jvm.ClassFile.FieldType.int), [])
def m_Md_place : ev_M := (⟨"PreferTableModel", "place", "(IIII)I"⟩, prog_14_method_43_code, 6, (Option.some Jvm.ClassFile.FieldType.int), [])
def m_Md_reducedTerm : ev_M := (⟨"PreferTableModel", "reducedTerm", "(III)I"⟩, prog_14_method_46_code, 5, (Option.some Jvm.ClassFile.FieldType.int), [])
def m_Md_dual : ev_M := (⟨"PreferTableModel", "dual", "(I)I"⟩, prog_14_method_45_code, 3, (Option.some Jvm.ClassFile.FieldType.int), [])
def m_Md_write : ev_M := (⟨"PreferTableModel", "write", "(I)V"⟩, prog_14_method_48_code, 5, Option.none, [])
def m_Md_emit : ev_M := (⟨"PreferTableModel", "emit", "(I)V"⟩, prog_14_method_47_code, 2, Option.none, [])
def m_Md_form : ev_M := (⟨"PreferTableModel", "form", "(I)I"⟩, prog_14_method_50_code, 2, (Option.some Jvm.ClassFile.FieldType.int), [])
def m_Lw_law : ev_M := (⟨"PreferTableLaw", "law", "([I)Z"⟩, code, 7, (Option.some Jvm.ClassFile.FieldType.boolean), [])
theorem bi_6 : (Int8.ofInt 6).toInt32 = nI 6 := by decide +kernel
theorem bi_7 : (Int8.ofInt 7).toInt32 = nI 7 := by decide +kernel
theorem bi_9 : (Int8.ofInt 9).toInt32 = nI 9 := by decide +kernel
theorem bi_10 : (Int8.ofInt 10).toInt32 = nI 10 := by decide +kernel
theorem bi_16 : (Int8.ofInt 16).toInt32 = nI 16 := by decide +kernel
theorem bi_20 : (Int8.ofInt 20).toInt32 = nI 20 := by decide +kernel
theorem bi_24 : (Int8.ofInt 24).toInt32 = nI 24 := by decide +kernel
theorem bi_25 : (Int8.ofInt 25).toInt32 = nI 25 := by decide +kernel
theorem bi_31 : (Int8.ofInt 31).toInt32 = nI 31 := by decide +kernel
theorem bi_40 : (Int8.ofInt 40).toInt32 = nI 40 := by decide +kernel
theorem bi_100 : (Int8.ofInt 100).toInt32 = nI 100 := by decide +kernel
theorem bi_119 : (Int8.ofInt 119).toInt32 = nI 119 := by decide +kernel
theorem bi_120 : (Int8.ofInt 120).toInt32 = nI 120 := by decide +kernel
theorem si_160 : (Int16.ofInt 160).toInt32 = nI 160 := by decide +kernel
theorem si_200 : (Int16.ofInt 200).toInt32 = nI 200 := by decide +kernel
theorem si_240 : (Int16.ofInt 240).toInt32 = nI 240 := by decide +kernel
theorem si_480 : (Int16.ofInt 480).toInt32 = nI 480 := by decide +kernel
end
section
/-! Words, by their places in the Statement's table (written by gen_lean.py). -/
theorem wd_0 : Cond.initialized "PreferTableLaw" ∈ lw_tbl := ev_mem 0 (by decide +kernel)
theorem wd_1 : Cond.initialized "PreferTable" ∈ lw_tbl := ev_mem 1 (by decide +kernel)
theorem wd_2 : Cond.initialized "PreferTable$Rows" ∈ lw_tbl := ev_mem 2 (by decide +kernel)
theorem wd_3 : Cond.initialized "PreferTable$Conditions" ∈ lw_tbl := ev_mem 3 (by decide +kernel)
theorem wd_4 : Cond.initialized "PreferTable$Contest" ∈ lw_tbl := ev_mem 4 (by decide +kernel)
theorem wd_5 : Cond.initialized "PreferTable$RowList" ∈ lw_tbl := ev_mem 5 (by decide +kernel)
theorem wd_6 : Cond.initialized "PreferTable$Question" ∈ lw_tbl := ev_mem 6 (by decide +kernel)
theorem wd_7 : Cond.initialized "PreferTableModel" ∈ lw_tbl := ev_mem 7 (by decide +kernel)
theorem wd_11 : Cond.initialized "java/lang/IllegalStateException" ∈ lw_tbl := ev_mem 11 (by decide +kernel)
theorem wd_12 : Cond.initialized "java/lang/System" ∈ lw_tbl := ev_mem 12 (by decide +kernel)
theorem wd_13 : Cond.initialized "java/lang/IndexOutOfBoundsException" ∈ lw_tbl := ev_mem 13 (by decide +kernel)
theorem wd_14 : Cond.initialized "java/lang/IllegalArgumentException" ∈ lw_tbl := ev_mem 14 (by decide +kernel)
theorem wd_17 : Cond.initialized "PreferTable$Layers" ∈ lw_tbl := ev_mem 17 (by decide +kernel)
theorem wd_18 : Cond.initialized "PreferTable$Graph" ∈ lw_tbl := ev_mem 18 (by decide +kernel)
theorem wd_19 : Cond.initialized "PreferTable$ValueOrder" ∈ lw_tbl := ev_mem 19 (by decide +kernel)
theorem wd_20 : Cond.initialized "PreferTable$Term" ∈ lw_tbl := ev_mem 20 (by decide +kernel)
theorem wd_21 : Cond.classLink "PreferTableLaw" 8 "PreferTable" ∈ lw_tbl := ev_mem 21 (by decide +kernel)
theorem wd_22 : Cond.instantiable "PreferTable" 11 ∈ lw_tbl := ev_mem 22 (by decide +kernel)
theorem wd_23 : Cond.methodLink "PreferTableLaw" 65 ⟨"PreferTable", "<init>", "()V"⟩ ∈ lw_tbl := ev_mem 23 (by decide +kernel)
theorem wd_24 : Cond.instanceMethod ⟨"PreferTable", "<init>", "()V"⟩ ∈ lw_tbl := ev_mem 24 (by decide +kernel)
theorem wd_25 : Cond.code ⟨"PreferTable", "<init>", "()V"⟩ prog_1_method_1_code 2 Option.none ∈ lw_tbl := ev_mem 25 (by decide +kernel)
theorem wd_26 : Cond.methodLink "PreferTable" 3 ⟨"java/lang/Object", "<init>", "()V"⟩ ∈ lw_tbl := ev_mem 26 (by decide +kernel)
theorem wd_27 : Cond.instanceMethod ⟨"java/lang/Object", "<init>", "()V"⟩ ∈ lw_tbl := ev_mem 27 (by decide +kernel)
theorem wd_28 : Cond.code ⟨"java/lang/Object", "<init>", "()V"⟩ object_method_1_code 1 Option.none ∈ lw_tbl := ev_mem 28 (by decide +kernel)
theorem wd_29 : Cond.classLink "PreferTable" 9 "PreferTable$Rows" ∈ lw_tbl := ev_mem 29 (by decide +kernel)
theorem wd_30 : Cond.instantiable "PreferTable$Rows" 4 ∈ lw_tbl := ev_mem 30 (by decide +kernel)
theorem wd_31 : Cond.methodLinkNest "PreferTable" 11 ⟨"PreferTable$Rows", "<init>", "()V"⟩ "PreferTable" ∈ lw_tbl := ev_mem 31 (by decide +kernel)
theorem wd_32 : Cond.instanceMethod ⟨"PreferTable$Rows", "<init>", "()V"⟩ ∈ lw_tbl := ev_mem 32 (by decide +kernel)
theorem wd_33 : Cond.code ⟨"PreferTable$Rows", "<init>", "()V"⟩ prog_10_method_1_code 1 Option.none ∈ lw_tbl := ev_mem 33 (by decide +kernel)
theorem wd_34 : Cond.methodLink "PreferTable$Rows" 3 ⟨"java/lang/Object", "<init>", "()V"⟩ ∈ lw_tbl := ev_mem 34 (by decide +kernel)
theorem wd_35 : Cond.classLink "PreferTable$Rows" 15 "[[I" ∈ lw_tbl := ev_mem 35 (by decide +kernel)
theorem wd_37 : Cond.fieldLink "PreferTable$Rows" 9 "PreferTable$Rows" "numbers" "[I" ∈ lw_tbl := ev_mem 37 (by decide +kernel)
theorem wd_38 : Cond.fieldLink "PreferTable$Contest" 60 "PreferTable$Rows" "numbers" "[I" ∈ lw_tbl := ev_mem 38 (by decide +kernel)
theorem wd_39 : Cond.fieldLink "PreferTable$Rows" 17 "PreferTable$Rows" "values" "[[I" ∈ lw_tbl := ev_mem 39 (by decide +kernel)
theorem wd_40 : Cond.fieldLink "PreferTable$Contest" 35 "PreferTable$Rows" "values" "[[I" ∈ lw_tbl := ev_mem 40 (by decide +kernel)
theorem wd_41 : Cond.fieldLink "PreferTable" 90 "PreferTable$Rows" "values" "[[I" ∈ lw_tbl := ev_mem 41 (by decide +kernel)
theorem wd_42 : Cond.fieldLink "PreferTable$Rows" 20 "PreferTable$Rows" "count" "I" ∈ lw_tbl := ev_mem 42 (by decide +kernel)
theorem wd_43 : Cond.fieldLink "PreferTable$Contest" 26 "PreferTable$Rows" "count" "I" ∈ lw_tbl := ev_mem 43 (by decide +kernel)
theorem wd_44 : Cond.fieldLink "PreferTable$Rows" 24 "PreferTable$Rows" "made" "I" ∈ lw_tbl := ev_mem 44 (by decide +kernel)
theorem wd_55 : Cond.classLink "PreferTable" 16 "PreferTable$Node" ∈ lw_tbl := ev_mem 55 (by decide +kernel)
theorem wd_57 : Cond.classLink "PreferTable" 26 "PreferTable$Conditions" ∈ lw_tbl := ev_mem 57 (by decide +kernel)
theorem wd_58 : Cond.instantiable "PreferTable$Conditions" 4 ∈ lw_tbl := ev_mem 58 (by decide +kernel)
theorem wd_59 : Cond.methodLinkNest "PreferTable" 28 ⟨"PreferTable$Conditions", "<init>", "()V"⟩ "PreferTable" ∈ lw_tbl := ev_mem 59 (by decide +kernel)
theorem wd_60 : Cond.instanceMethod ⟨"PreferTable$Conditions", "<init>", "()V"⟩ ∈ lw_tbl := ev_mem 60 (by decide +kernel)
theorem wd_61 : Cond.code ⟨"PreferTable$Conditions", "<init>", "()V"⟩ prog_2_method_1_code 1 Option.none ∈ lw_tbl := ev_mem 61 (by decide +kernel)
theorem wd_62 : Cond.methodLink "PreferTable$Conditions" 3 ⟨"java/lang/Object", "<init>", "()V"⟩ ∈ lw_tbl := ev_mem 62 (by decide +kernel)
theorem wd_63 : Cond.fieldLink "PreferTable$Conditions" 9 "PreferTable$Conditions" "columns" "[I" ∈ lw_tbl := ev_mem 63 (by decide +kernel)
theorem wd_64 : Cond.fieldLink "PreferTable$Conditions" 15 "PreferTable$Conditions" "operations" "[I" ∈ lw_tbl := ev_mem 64 (by decide +kernel)
theorem wd_65 : Cond.fieldLink "PreferTable$Conditions" 18 "PreferTable$Conditions" "bounds" "[I" ∈ lw_tbl := ev_mem 65 (by decide +kernel)
theorem wd_66 : Cond.fieldLink "PreferTable$Conditions" 21 "PreferTable$Conditions" "count" "I" ∈ lw_tbl := ev_mem 66 (by decide +kernel)
theorem wd_67 : Cond.fieldLink "PreferTable" 154 "PreferTable$Conditions" "count" "I" ∈ lw_tbl := ev_mem 67 (by decide +kernel)
theorem wd_77 : Cond.classLink "PreferTable" 33 "PreferTable$Contest" ∈ lw_tbl := ev_mem 77 (by decide +kernel)
theorem wd_78 : Cond.instantiable "PreferTable$Contest" 3 ∈ lw_tbl := ev_mem 78 (by decide +kernel)
theorem wd_79 : Cond.methodLinkNest "PreferTable" 35 ⟨"PreferTable$Contest", "<init>", "()V"⟩ "PreferTable" ∈ lw_tbl := ev_mem 79 (by decide +kernel)
theorem wd_80 : Cond.instanceMethod ⟨"PreferTable$Contest", "<init>", "()V"⟩ ∈ lw_tbl := ev_mem 80 (by decide +kernel)
theorem wd_81 : Cond.code ⟨"PreferTable$Contest", "<init>", "()V"⟩ prog_3_method_1_code 1 Option.none ∈ lw_tbl := ev_mem 81 (by decide +kernel)
theorem wd_82 : Cond.methodLink "PreferTable$Contest" 3 ⟨"java/lang/Object", "<init>", "()V"⟩ ∈ lw_tbl := ev_mem 82 (by decide +kernel)
theorem wd_83 : Cond.fieldLink "PreferTable$Contest" 9 "PreferTable$Contest" "beaters" "[I" ∈ lw_tbl := ev_mem 83 (by decide +kernel)
theorem wd_84 : Cond.fieldLink "PreferTable$Contest" 15 "PreferTable$Contest" "levels" "[I" ∈ lw_tbl := ev_mem 84 (by decide +kernel)
theorem wd_85 : Cond.fieldLink "PreferTable" 197 "PreferTable$Contest" "levels" "[I" ∈ lw_tbl := ev_mem 85 (by decide +kernel)
theorem wd_86 : Cond.fieldLink "PreferTable$Contest" 18 "PreferTable$Contest" "passing" "I" ∈ lw_tbl := ev_mem 86 (by decide +kernel)
theorem wd_94 : Cond.classLink "PreferTable" 40 "PreferTable$RowList" ∈ lw_tbl := ev_mem 94 (by decide +kernel)
theorem wd_95 : Cond.instantiable "PreferTable$RowList" 2 ∈ lw_tbl := ev_mem 95 (by decide +kernel)
theorem wd_96 : Cond.methodLinkNest "PreferTable" 42 ⟨"PreferTable$RowList", "<init>", "()V"⟩ "PreferTable" ∈ lw_tbl := ev_mem 96 (by decide +kernel)
theorem wd_97 : Cond.instanceMethod ⟨"PreferTable$RowList", "<init>", "()V"⟩ ∈ lw_tbl := ev_mem 97 (by decide +kernel)
theorem wd_98 : Cond.code ⟨"PreferTable$RowList", "<init>", "()V"⟩ prog_9_method_1_code 1 Option.none ∈ lw_tbl := ev_mem 98 (by decide +kernel)
theorem wd_99 : Cond.methodLink "PreferTable$RowList" 3 ⟨"java/lang/Object", "<init>", "()V"⟩ ∈ lw_tbl := ev_mem 99 (by decide +kernel)
theorem wd_100 : Cond.fieldLink "PreferTable$RowList" 9 "PreferTable$RowList" "numbers" "[I" ∈ lw_tbl := ev_mem 100 (by decide +kernel)
theorem wd_101 : Cond.fieldLink "PreferTable$RowList" 15 "PreferTable$RowList" "count" "I" ∈ lw_tbl := ev_mem 101 (by decide +kernel)
theorem wd_102 : Cond.fieldLink "PreferTable$Contest" 75 "PreferTable$RowList" "count" "I" ∈ lw_tbl := ev_mem 102 (by decide +kernel)
theorem wd_103 : Cond.fieldLink "PreferTable" 181 "PreferTable$RowList" "count" "I" ∈ lw_tbl := ev_mem 103 (by decide +kernel)
theorem wd_109 : Cond.classLink "PreferTable" 50 "PreferTable$Question" ∈ lw_tbl := ev_mem 109 (by decide +kernel)
theorem wd_111 : Cond.instantiable "PreferTable$Question" 5 ∈ lw_tbl := ev_mem 111 (by decide +kernel)
theorem wd_112 : Cond.methodLinkNest "PreferTable" 66 ⟨"PreferTable$Question", "<init>", "()V"⟩ "PreferTable" ∈ lw_tbl := ev_mem 112 (by decide +kernel)
theorem wd_113 : Cond.instanceMethod ⟨"PreferTable$Question", "<init>", "()V"⟩ ∈ lw_tbl := ev_mem 113 (by decide +kernel)
theorem wd_114 : Cond.code ⟨"PreferTable$Question", "<init>", "()V"⟩ prog_8_method_1_code 1 Option.none ∈ lw_tbl := ev_mem 114 (by decide +kernel)
theorem wd_115 : Cond.methodLink "PreferTable$Question" 3 ⟨"java/lang/Object", "<init>", "()V"⟩ ∈ lw_tbl := ev_mem 115 (by decide +kernel)
theorem wd_116 : Cond.classLink "PreferTable$Question" 15 "PreferTable$Conditions" ∈ lw_tbl := ev_mem 116 (by decide +kernel)
theorem wd_117 : Cond.methodLinkNest "PreferTable$Question" 17 ⟨"PreferTable$Conditions", "<init>", "()V"⟩ "PreferTable" ∈ lw_tbl := ev_mem 117 (by decide +kernel)
theorem wd_118 : Cond.classLink "PreferTable$Question" 22 "PreferTable$RowList" ∈ lw_tbl := ev_mem 118 (by decide +kernel)
theorem wd_119 : Cond.methodLinkNest "PreferTable$Question" 24 ⟨"PreferTable$RowList", "<init>", "()V"⟩ "PreferTable" ∈ lw_tbl := ev_mem 119 (by decide +kernel)
theorem wd_120 : Cond.fieldLink "PreferTable$Question" 9 "PreferTable$Question" "node" "LPreferTable$Node;" ∈ lw_tbl := ev_mem 120 (by decide +kernel)
theorem wd_121 : Cond.fieldLink "PreferTable" 239 "PreferTable$Question" "node" "LPreferTable$Node;" ∈ lw_tbl := ev_mem 121 (by decide +kernel)
theorem wd_122 : Cond.fieldLink "PreferTable$Question" 18 "PreferTable$Question" "conditions" "LPreferTable$Conditions;" ∈ lw_tbl := ev_mem 122 (by decide +kernel)
theorem wd_123 : Cond.fieldLink "PreferTable" 277 "PreferTable$Question" "conditions" "LPreferTable$Conditions;" ∈ lw_tbl := ev_mem 123 (by decide +kernel)
theorem wd_124 : Cond.fieldLink "PreferTable$Question" 25 "PreferTable$Question" "current" "LPreferTable$RowList;" ∈ lw_tbl := ev_mem 124 (by decide +kernel)
theorem wd_125 : Cond.fieldLink "PreferTable" 221 "PreferTable$Question" "current" "LPreferTable$RowList;" ∈ lw_tbl := ev_mem 125 (by decide +kernel)
theorem wd_126 : Cond.fieldLink "PreferTable$Question" 29 "PreferTable$Question" "lastRead" "LPreferTable$RowList;" ∈ lw_tbl := ev_mem 126 (by decide +kernel)
theorem wd_127 : Cond.fieldLink "PreferTable" 230 "PreferTable$Question" "lastRead" "LPreferTable$RowList;" ∈ lw_tbl := ev_mem 127 (by decide +kernel)
theorem wd_128 : Cond.fieldLink "PreferTable$Question" 32 "PreferTable$Question" "alterationsSeen" "I" ∈ lw_tbl := ev_mem 128 (by decide +kernel)
theorem wd_129 : Cond.fieldLink "PreferTable" 274 "PreferTable$Question" "alterationsSeen" "I" ∈ lw_tbl := ev_mem 129 (by decide +kernel)
theorem wd_141 : Cond.fieldLink "PreferTable" 12 "PreferTable" "rows" "LPreferTable$Rows;" ∈ lw_tbl := ev_mem 141 (by decide +kernel)
theorem wd_142 : Cond.fieldLink "PreferTable" 18 "PreferTable" "nodes" "[LPreferTable$Node;" ∈ lw_tbl := ev_mem 142 (by decide +kernel)
theorem wd_143 : Cond.fieldLink "PreferTable" 22 "PreferTable" "nodeCount" "I" ∈ lw_tbl := ev_mem 143 (by decide +kernel)
theorem wd_144 : Cond.fieldLink "PreferTable" 29 "PreferTable" "conditions" "LPreferTable$Conditions;" ∈ lw_tbl := ev_mem 144 (by decide +kernel)
theorem wd_145 : Cond.fieldLink "PreferTable" 36 "PreferTable" "contest" "LPreferTable$Contest;" ∈ lw_tbl := ev_mem 145 (by decide +kernel)
theorem wd_146 : Cond.fieldLink "PreferTable" 43 "PreferTable" "answered" "LPreferTable$RowList;" ∈ lw_tbl := ev_mem 146 (by decide +kernel)
theorem wd_147 : Cond.fieldLink "PreferTable" 47 "PreferTable" "nobody" "LPreferTable$RowList;" ∈ lw_tbl := ev_mem 147 (by decide +kernel)
theorem wd_148 : Cond.fieldLink "PreferTable" 52 "PreferTable" "questions" "[LPreferTable$Question;" ∈ lw_tbl := ev_mem 148 (by decide +kernel)
theorem wd_149 : Cond.fieldLink "PreferTable" 56 "PreferTable" "alterations" "I" ∈ lw_tbl := ev_mem 149 (by decide +kernel)
theorem wd_150 : Cond.fieldLink "PreferTable" 59 "PreferTable" "formNumbers" "[I" ∈ lw_tbl := ev_mem 150 (by decide +kernel)
theorem wd_151 : Cond.fieldLink "PreferTable" 63 "PreferTable" "formLength" "I" ∈ lw_tbl := ev_mem 151 (by decide +kernel)
theorem wd_175 : Cond.methodLink "PreferTableLaw" 79 ⟨"PreferTable", "change", "(III)Z"⟩ ∈ lw_tbl := ev_mem 175 (by decide +kernel)
theorem wd_176 : Cond.instanceMethod ⟨"PreferTable", "change", "(III)Z"⟩ ∈ lw_tbl := ev_mem 176 (by decide +kernel)
theorem wd_177 : Cond.selects "PreferTable" ⟨"PreferTable", "change", "(III)Z"⟩ ⟨"PreferTable", "change", "(III)Z"⟩ ∈ lw_tbl := ev_mem 177 (by decide +kernel)
theorem wd_178 : Cond.code ⟨"PreferTable", "change", "(III)Z"⟩ prog_1_method_3_code 5 (Option.some Jvm.ClassFile.FieldType.boolean) ∈ lw_tbl := ev_mem 178 (by decide +kernel)
theorem wd_179 : Cond.methodLink "PreferTable" 82 ⟨"PreferTable$Rows", "placeOf", "(I)I"⟩ ∈ lw_tbl := ev_mem 179 (by decide +kernel)
theorem wd_180 : Cond.instanceMethod ⟨"PreferTable$Rows", "placeOf", "(I)I"⟩ ∈ lw_tbl := ev_mem 180 (by decide +kernel)
theorem wd_181 : Cond.selects "PreferTable$Rows" ⟨"PreferTable$Rows", "placeOf", "(I)I"⟩ ⟨"PreferTable$Rows", "placeOf", "(I)I"⟩ ∈ lw_tbl := ev_mem 181 (by decide +kernel)
theorem wd_182 : Cond.code ⟨"PreferTable$Rows", "placeOf", "(I)I"⟩ prog_10_method_4_code 3 (Option.some Jvm.ClassFile.FieldType.int) ∈ lw_tbl := ev_mem 182 (by decide +kernel)
theorem wd_183 : Cond.methodLink "PreferTable" 86 ⟨"PreferTable", "isColumn", "(I)Z"⟩ ∈ lw_tbl := ev_mem 183 (by decide +kernel)
theorem wd_184 : Cond.static ⟨"PreferTable", "isColumn", "(I)Z"⟩ ∈ lw_tbl := ev_mem 184 (by decide +kernel)
theorem wd_185 : Cond.code ⟨"PreferTable", "isColumn", "(I)Z"⟩ prog_1_method_24_code 1 (Option.some Jvm.ClassFile.FieldType.boolean) ∈ lw_tbl := ev_mem 185 (by decide +kernel)
theorem wd_186 : Cond.methodLink "PreferTableLaw" 83 ⟨"PreferTable", "remove", "(I)Z"⟩ ∈ lw_tbl := ev_mem 186 (by decide +kernel)
theorem wd_187 : Cond.instanceMethod ⟨"PreferTable", "remove", "(I)Z"⟩ ∈ lw_tbl := ev_mem 187 (by decide +kernel)
theorem wd_188 : Cond.selects "PreferTable" ⟨"PreferTable", "remove", "(I)Z"⟩ ⟨"PreferTable", "remove", "(I)Z"⟩ ∈ lw_tbl := ev_mem 188 (by decide +kernel)
theorem wd_189 : Cond.code ⟨"PreferTable", "remove", "(I)Z"⟩ prog_1_method_4_code 3 (Option.some Jvm.ClassFile.FieldType.boolean) ∈ lw_tbl := ev_mem 189 (by decide +kernel)
theorem wd_190 : Cond.methodLink "PreferTable" 94 ⟨"PreferTable$Rows", "drop", "(I)V"⟩ ∈ lw_tbl := ev_mem 190 (by decide +kernel)
theorem wd_191 : Cond.instanceMethod ⟨"PreferTable$Rows", "drop", "(I)V"⟩ ∈ lw_tbl := ev_mem 191 (by decide +kernel)
theorem wd_192 : Cond.selects "PreferTable$Rows" ⟨"PreferTable$Rows", "drop", "(I)V"⟩ ⟨"PreferTable$Rows", "drop", "(I)V"⟩ ∈ lw_tbl := ev_mem 192 (by decide +kernel)
theorem wd_193 : Cond.code ⟨"PreferTable$Rows", "drop", "(I)V"⟩ prog_10_method_5_code 3 Option.none ∈ lw_tbl := ev_mem 193 (by decide +kernel)
theorem wd_194 : Cond.methodLink "PreferTable$Rows" 27 ⟨"java/lang/System", "arraycopy", "(Ljava/lang/Object;ILjava/lang/Object;II)V"⟩ ∈ lw_tbl := ev_mem 194 (by decide +kernel)
theorem wd_195 : Cond.static ⟨"java/lang/System", "arraycopy", "(Ljava/lang/Object;ILjava/lang/Object;II)V"⟩ ∈ lw_tbl := ev_mem 195 (by decide +kernel)
theorem wd_196 : Cond.native ⟨"java/lang/System", "arraycopy", "(Ljava/lang/Object;ILjava/lang/Object;II)V"⟩ ∈ lw_tbl := ev_mem 196 (by decide +kernel)
theorem wd_197 : Cond.methodLink "PreferTableLaw" 95 ⟨"PreferTable", "layer", "(III)Z"⟩ ∈ lw_tbl := ev_mem 197 (by decide +kernel)
theorem wd_198 : Cond.instanceMethod ⟨"PreferTable", "layer", "(III)Z"⟩ ∈ lw_tbl := ev_mem 198 (by decide +kernel)
theorem wd_199 : Cond.selects "PreferTable" ⟨"PreferTable", "layer", "(III)Z"⟩ ⟨"PreferTable", "layer", "(III)Z"⟩ ∈ lw_tbl := ev_mem 199 (by decide +kernel)
theorem wd_200 : Cond.code ⟨"PreferTable", "layer", "(III)Z"⟩ prog_1_method_7_code 6 (Option.some Jvm.ClassFile.FieldType.boolean) ∈ lw_tbl := ev_mem 200 (by decide +kernel)
theorem wd_201 : Cond.methodLink "PreferTable" 118 ⟨"PreferTable", "isNode", "(I)Z"⟩ ∈ lw_tbl := ev_mem 201 (by decide +kernel)
theorem wd_203 : Cond.instanceMethod ⟨"PreferTable", "isNode", "(I)Z"⟩ ∈ lw_tbl := ev_mem 203 (by decide +kernel)
theorem wd_204 : Cond.code ⟨"PreferTable", "isNode", "(I)Z"⟩ prog_1_method_26_code 2 (Option.some Jvm.ClassFile.FieldType.boolean) ∈ lw_tbl := ev_mem 204 (by decide +kernel)
theorem wd_205 : Cond.methodLink "PreferTable" 121 ⟨"PreferTable", "isGraded", "(I)Z"⟩ ∈ lw_tbl := ev_mem 205 (by decide +kernel)
theorem wd_206 : Cond.static ⟨"PreferTable", "isGraded", "(I)Z"⟩ ∈ lw_tbl := ev_mem 206 (by decide +kernel)
theorem wd_207 : Cond.code ⟨"PreferTable", "isGraded", "(I)Z"⟩ prog_1_method_25_code 1 (Option.some Jvm.ClassFile.FieldType.boolean) ∈ lw_tbl := ev_mem 207 (by decide +kernel)
theorem wd_208 : Cond.classLink "PreferTable" 124 "PreferTable$Layers" ∈ lw_tbl := ev_mem 208 (by decide +kernel)
theorem wd_209 : Cond.methodLink "PreferTableLaw" 109 ⟨"PreferTable", "free", "()V"⟩ ∈ lw_tbl := ev_mem 209 (by decide +kernel)
theorem wd_210 : Cond.instanceMethod ⟨"PreferTable", "free", "()V"⟩ ∈ lw_tbl := ev_mem 210 (by decide +kernel)
theorem wd_211 : Cond.selects "PreferTable" ⟨"PreferTable", "free", "()V"⟩ ⟨"PreferTable", "free", "()V"⟩ ∈ lw_tbl := ev_mem 211 (by decide +kernel)
theorem wd_212 : Cond.code ⟨"PreferTable", "free", "()V"⟩ prog_1_method_11_code 1 Option.none ∈ lw_tbl := ev_mem 212 (by decide +kernel)
theorem wd_213 : Cond.methodLink "PreferTable" 162 ⟨"PreferTable$Conditions", "clear", "()V"⟩ ∈ lw_tbl := ev_mem 213 (by decide +kernel)
theorem wd_214 : Cond.instanceMethod ⟨"PreferTable$Conditions", "clear", "()V"⟩ ∈ lw_tbl := ev_mem 214 (by decide +kernel)
theorem wd_215 : Cond.selects "PreferTable$Conditions" ⟨"PreferTable$Conditions", "clear", "()V"⟩ ⟨"PreferTable$Conditions", "clear", "()V"⟩ ∈ lw_tbl := ev_mem 215 (by decide +kernel)
theorem wd_216 : Cond.code ⟨"PreferTable$Conditions", "clear", "()V"⟩ prog_2_method_2_code 1 Option.none ∈ lw_tbl := ev_mem 216 (by decide +kernel)
theorem wd_217 : Cond.methodLink "PreferTableLaw" 129 ⟨"PreferTable", "answer", "(I)I"⟩ ∈ lw_tbl := ev_mem 217 (by decide +kernel)
theorem wd_218 : Cond.instanceMethod ⟨"PreferTable", "answer", "(I)I"⟩ ∈ lw_tbl := ev_mem 218 (by decide +kernel)
theorem wd_219 : Cond.selects "PreferTable" ⟨"PreferTable", "answer", "(I)I"⟩ ⟨"PreferTable", "answer", "(I)I"⟩ ∈ lw_tbl := ev_mem 219 (by decide +kernel)
theorem wd_220 : Cond.code ⟨"PreferTable", "answer", "(I)I"⟩ prog_1_method_17_code 2 (Option.some Jvm.ClassFile.FieldType.int) ∈ lw_tbl := ev_mem 220 (by decide +kernel)
theorem wd_221 : Cond.methodLink "PreferTable" 200 ⟨"PreferTable$RowList", "pick", "(LPreferTable$RowList;I)I"⟩ ∈ lw_tbl := ev_mem 221 (by decide +kernel)
theorem wd_222 : Cond.instanceMethod ⟨"PreferTable$RowList", "pick", "(LPreferTable$RowList;I)I"⟩ ∈ lw_tbl := ev_mem 222 (by decide +kernel)
theorem wd_223 : Cond.selects "PreferTable$RowList" ⟨"PreferTable$RowList", "pick", "(LPreferTable$RowList;I)I"⟩ ⟨"PreferTable$RowList", "pick", "(LPreferTable$RowList;I)I"⟩ ∈ lw_tbl := ev_mem 223 (by decide +kernel)
theorem wd_224 : Cond.code ⟨"PreferTable$RowList", "pick", "(LPreferTable$RowList;I)I"⟩ prog_9_method_6_code 5 (Option.some Jvm.ClassFile.FieldType.int) ∈ lw_tbl := ev_mem 224 (by decide +kernel)
theorem wd_225 : Cond.methodLink "PreferTable$RowList" 25 ⟨"PreferTable$RowList", "has", "(I)Z"⟩ ∈ lw_tbl := ev_mem 225 (by decide +kernel)
theorem wd_226 : Cond.instanceMethod ⟨"PreferTable$RowList", "has", "(I)Z"⟩ ∈ lw_tbl := ev_mem 226 (by decide +kernel)
theorem wd_227 : Cond.selects "PreferTable$RowList" ⟨"PreferTable$RowList", "has", "(I)Z"⟩ ⟨"PreferTable$RowList", "has", "(I)Z"⟩ ∈ lw_tbl := ev_mem 227 (by decide +kernel)
theorem wd_228 : Cond.code ⟨"PreferTable$RowList", "has", "(I)Z"⟩ prog_9_method_5_code 3 (Option.some Jvm.ClassFile.FieldType.boolean) ∈ lw_tbl := ev_mem 228 (by decide +kernel)
theorem wd_229 : Cond.methodLink "PreferTableLaw" 139 ⟨"PreferTable", "saved", "(III)I"⟩ ∈ lw_tbl := ev_mem 229 (by decide +kernel)
theorem wd_230 : Cond.instanceMethod ⟨"PreferTable", "saved", "(III)I"⟩ ∈ lw_tbl := ev_mem 230 (by decide +kernel)
theorem wd_231 : Cond.selects "PreferTable" ⟨"PreferTable", "saved", "(III)I"⟩ ⟨"PreferTable", "saved", "(III)I"⟩ ∈ lw_tbl := ev_mem 231 (by decide +kernel)
theorem wd_232 : Cond.code ⟨"PreferTable", "saved", "(III)I"⟩ prog_1_method_20_code 5 (Option.some Jvm.ClassFile.FieldType.int) ∈ lw_tbl := ev_mem 232 (by decide +kernel)
theorem wd_233 : Cond.methodLink "PreferTable" 224 ⟨"PreferTable", "isSaved", "(I)Z"⟩ ∈ lw_tbl := ev_mem 233 (by decide +kernel)
theorem wd_235 : Cond.instanceMethod ⟨"PreferTable", "isSaved", "(I)Z"⟩ ∈ lw_tbl := ev_mem 235 (by decide +kernel)
theorem wd_236 : Cond.code ⟨"PreferTable", "isSaved", "(I)Z"⟩ prog_1_method_28_code 2 (Option.some Jvm.ClassFile.FieldType.boolean) ∈ lw_tbl := ev_mem 236 (by decide +kernel)
theorem wd_237 : Cond.methodLink "PreferTable" 208 ⟨"PreferTable", "isQuestion", "(I)Z"⟩ ∈ lw_tbl := ev_mem 237 (by decide +kernel)
theorem wd_238 : Cond.static ⟨"PreferTable", "isQuestion", "(I)Z"⟩ ∈ lw_tbl := ev_mem 238 (by decide +kernel)
theorem wd_239 : Cond.code ⟨"PreferTable", "isQuestion", "(I)Z"⟩ prog_1_method_27_code 1 (Option.some Jvm.ClassFile.FieldType.boolean) ∈ lw_tbl := ev_mem 239 (by decide +kernel)
theorem wd_240 : Cond.methodLink "PreferTable" 227 ⟨"PreferTable", "keepUp", "(LPreferTable$Question;)V"⟩ ∈ lw_tbl := ev_mem 240 (by decide +kernel)
theorem wd_242 : Cond.instanceMethod ⟨"PreferTable", "keepUp", "(LPreferTable$Question;)V"⟩ ∈ lw_tbl := ev_mem 242 (by decide +kernel)
theorem wd_243 : Cond.code ⟨"PreferTable", "keepUp", "(LPreferTable$Question;)V"⟩ prog_1_method_33_code 2 Option.none ∈ lw_tbl := ev_mem 243 (by decide +kernel)
theorem wd_244 : Cond.methodLink "PreferTable" 173 ⟨"PreferTable$Contest", "hold", "(LPreferTable$Rows;LPreferTable$Node;LPreferTable$Conditions;)V"⟩ ∈ lw_tbl := ev_mem 244 (by decide +kernel)
theorem wd_245 : Cond.instanceMethod ⟨"PreferTable$Contest", "hold", "(LPreferTable$Rows;LPreferTable$Node;LPreferTable$Conditions;)V"⟩ ∈ lw_tbl := ev_mem 245 (by decide +kernel)
theorem wd_246 : Cond.selects "PreferTable$Contest" ⟨"PreferTable$Contest", "hold", "(LPreferTable$Rows;LPreferTable$Node;LPreferTable$Conditions;)V"⟩ ⟨"PreferTable$Contest", "hold", "(LPreferTable$Rows;LPreferTable$Node;LPreferTable$Conditions;)V"⟩ ∈ lw_tbl := ev_mem 246 (by decide +kernel)
theorem wd_247 : Cond.code ⟨"PreferTable$Contest", "hold", "(LPreferTable$Rows;LPreferTable$Node;LPreferTable$Conditions;)V"⟩ prog_3_method_2_code 6 Option.none ∈ lw_tbl := ev_mem 247 (by decide +kernel)
theorem wd_248 : Cond.methodLink "PreferTable$Contest" 22 ⟨"PreferTable$Contest", "letIn", "(LPreferTable$Rows;LPreferTable$Conditions;)V"⟩ ∈ lw_tbl := ev_mem 248 (by decide +kernel)
theorem wd_250 : Cond.instanceMethod ⟨"PreferTable$Contest", "letIn", "(LPreferTable$Rows;LPreferTable$Conditions;)V"⟩ ∈ lw_tbl := ev_mem 250 (by decide +kernel)
theorem wd_251 : Cond.code ⟨"PreferTable$Contest", "letIn", "(LPreferTable$Rows;LPreferTable$Conditions;)V"⟩ prog_3_method_3_code 4 Option.none ∈ lw_tbl := ev_mem 251 (by decide +kernel)
theorem wd_252 : Cond.methodLink "PreferTable$Contest" 49 ⟨"PreferTable$Conditions", "pass", "([I)Z"⟩ ∈ lw_tbl := ev_mem 252 (by decide +kernel)
theorem wd_253 : Cond.instanceMethod ⟨"PreferTable$Conditions", "pass", "([I)Z"⟩ ∈ lw_tbl := ev_mem 253 (by decide +kernel)
theorem wd_254 : Cond.selects "PreferTable$Conditions" ⟨"PreferTable$Conditions", "pass", "([I)Z"⟩ ⟨"PreferTable$Conditions", "pass", "([I)Z"⟩ ∈ lw_tbl := ev_mem 254 (by decide +kernel)
theorem wd_255 : Cond.code ⟨"PreferTable$Conditions", "pass", "([I)Z"⟩ prog_2_method_5_code 3 (Option.some Jvm.ClassFile.FieldType.boolean) ∈ lw_tbl := ev_mem 255 (by decide +kernel)
theorem wd_256 : Cond.methodLink "PreferTable$Conditions" 32 ⟨"PreferTable$Conditions", "holds", "(III)Z"⟩ ∈ lw_tbl := ev_mem 256 (by decide +kernel)
theorem wd_257 : Cond.static ⟨"PreferTable$Conditions", "holds", "(III)Z"⟩ ∈ lw_tbl := ev_mem 257 (by decide +kernel)
theorem wd_258 : Cond.code ⟨"PreferTable$Conditions", "holds", "(III)Z"⟩ prog_2_method_6_code 3 (Option.some Jvm.ClassFile.FieldType.boolean) ∈ lw_tbl := ev_mem 258 (by decide +kernel)
theorem wd_259 : Cond.methodLink "PreferTable$Contest" 31 ⟨"PreferTable$Contest", "isIn", "(II)Z"⟩ ∈ lw_tbl := ev_mem 259 (by decide +kernel)
theorem wd_260 : Cond.static ⟨"PreferTable$Contest", "isIn", "(II)Z"⟩ ∈ lw_tbl := ev_mem 260 (by decide +kernel)
theorem wd_261 : Cond.code ⟨"PreferTable$Contest", "isIn", "(II)Z"⟩ prog_3_method_5_code 2 (Option.some Jvm.ClassFile.FieldType.boolean) ∈ lw_tbl := ev_mem 261 (by decide +kernel)
theorem wd_262 : Cond.methodLink "PreferTable$Contest" 39 ⟨"PreferTable$Node", "says", "([I[I)I"⟩ ∈ lw_tbl := ev_mem 262 (by decide +kernel)
theorem wd_263 : Cond.declares ⟨"PreferTable$Node", "says", "([I[I)I"⟩ ∈ lw_tbl := ev_mem 263 (by decide +kernel)
theorem wd_264 : Cond.sameMethod "PreferTable$Node" "PreferTable$Node" "says" "([I[I)I" ∈ lw_tbl := ev_mem 264 (by decide +kernel)
theorem wd_265 : Cond.selects "PreferTable$Graph" ⟨"PreferTable$Node", "says", "([I[I)I"⟩ ⟨"PreferTable$Order", "says", "([I[I)I"⟩ ∈ lw_tbl := ev_mem 265 (by decide +kernel)
theorem wd_266 : Cond.instanceMethod ⟨"PreferTable$Order", "says", "([I[I)I"⟩ ∈ lw_tbl := ev_mem 266 (by decide +kernel)
theorem wd_267 : Cond.code ⟨"PreferTable$Order", "says", "([I[I)I"⟩ prog_7_method_2_code 5 (Option.some Jvm.ClassFile.FieldType.int) ∈ lw_tbl := ev_mem 267 (by decide +kernel)
theorem wd_268 : Cond.methodLink "PreferTable$Order" 15 ⟨"PreferTable$Order", "prefers", "(II)Z"⟩ ∈ lw_tbl := ev_mem 268 (by decide +kernel)
theorem wd_269 : Cond.declares ⟨"PreferTable$Order", "prefers", "(II)Z"⟩ ∈ lw_tbl := ev_mem 269 (by decide +kernel)
theorem wd_270 : Cond.sameMethod "PreferTable$Order" "PreferTable$Order" "prefers" "(II)Z" ∈ lw_tbl := ev_mem 270 (by decide +kernel)
theorem wd_271 : Cond.selects "PreferTable$Graph" ⟨"PreferTable$Order", "prefers", "(II)Z"⟩ ⟨"PreferTable$Graph", "prefers", "(II)Z"⟩ ∈ lw_tbl := ev_mem 271 (by decide +kernel)
theorem wd_272 : Cond.instanceMethod ⟨"PreferTable$Graph", "prefers", "(II)Z"⟩ ∈ lw_tbl := ev_mem 272 (by decide +kernel)
theorem wd_273 : Cond.code ⟨"PreferTable$Graph", "prefers", "(II)Z"⟩ prog_4_method_2_code 3 (Option.some Jvm.ClassFile.FieldType.boolean) ∈ lw_tbl := ev_mem 273 (by decide +kernel)
theorem wd_274 : Cond.methodLinkNest "PreferTable$Graph" 18 ⟨"PreferTable", "isGraded", "(I)Z"⟩ "PreferTable" ∈ lw_tbl := ev_mem 274 (by decide +kernel)
theorem wd_275 : Cond.methodLink "PreferTable$Graph" 22 ⟨"PreferTable$Graph", "leads", "(II)Z"⟩ ∈ lw_tbl := ev_mem 275 (by decide +kernel)
theorem wd_276 : Cond.instanceMethod ⟨"PreferTable$Graph", "leads", "(II)Z"⟩ ∈ lw_tbl := ev_mem 276 (by decide +kernel)
theorem wd_277 : Cond.selects "PreferTable$Graph" ⟨"PreferTable$Graph", "leads", "(II)Z"⟩ ⟨"PreferTable$Graph", "leads", "(II)Z"⟩ ∈ lw_tbl := ev_mem 277 (by decide +kernel)
theorem wd_278 : Cond.code ⟨"PreferTable$Graph", "leads", "(II)Z"⟩ prog_4_method_3_code 3 (Option.some Jvm.ClassFile.FieldType.boolean) ∈ lw_tbl := ev_mem 278 (by decide +kernel)
theorem wd_279 : Cond.selects "PreferTable$Layers" ⟨"PreferTable$Order", "prefers", "(II)Z"⟩ ⟨"PreferTable$Layers", "prefers", "(II)Z"⟩ ∈ lw_tbl := ev_mem 279 (by decide +kernel)
theorem wd_280 : Cond.instanceMethod ⟨"PreferTable$Layers", "prefers", "(II)Z"⟩ ∈ lw_tbl := ev_mem 280 (by decide +kernel)
theorem wd_281 : Cond.code ⟨"PreferTable$Layers", "prefers", "(II)Z"⟩ prog_5_method_2_code 5 (Option.some Jvm.ClassFile.FieldType.boolean) ∈ lw_tbl := ev_mem 281 (by decide +kernel)
theorem wd_282 : Cond.methodLink "PreferTable$Layers" 15 ⟨"PreferTable$Layers", "find", "(I)I"⟩ ∈ lw_tbl := ev_mem 282 (by decide +kernel)
theorem wd_284 : Cond.instanceMethod ⟨"PreferTable$Layers", "find", "(I)I"⟩ ∈ lw_tbl := ev_mem 284 (by decide +kernel)
theorem wd_285 : Cond.instantiable "PreferTable$Layers" 6 ∈ lw_tbl := ev_mem 285 (by decide +kernel)
theorem wd_286 : Cond.code ⟨"PreferTable$Layers", "find", "(I)I"⟩ prog_5_method_3_code 2 (Option.some Jvm.ClassFile.FieldType.int) ∈ lw_tbl := ev_mem 286 (by decide +kernel)
theorem wd_287 : Cond.methodLinkNest "PreferTable$Layers" 19 ⟨"PreferTable", "isGraded", "(I)Z"⟩ "PreferTable" ∈ lw_tbl := ev_mem 287 (by decide +kernel)
theorem wd_288 : Cond.selects "PreferTable$ValueOrder" ⟨"PreferTable$Order", "prefers", "(II)Z"⟩ ⟨"PreferTable$ValueOrder", "prefers", "(II)Z"⟩ ∈ lw_tbl := ev_mem 288 (by decide +kernel)
theorem wd_289 : Cond.instanceMethod ⟨"PreferTable$ValueOrder", "prefers", "(II)Z"⟩ ∈ lw_tbl := ev_mem 289 (by decide +kernel)
theorem wd_290 : Cond.code ⟨"PreferTable$ValueOrder", "prefers", "(II)Z"⟩ prog_12_method_2_code 3 (Option.some Jvm.ClassFile.FieldType.boolean) ∈ lw_tbl := ev_mem 290 (by decide +kernel)
theorem wd_291 : Cond.methodLink "PreferTable$ValueOrder" 21 ⟨"PreferTable$ValueOrder", "distance", "(I)J"⟩ ∈ lw_tbl := ev_mem 291 (by decide +kernel)
theorem wd_293 : Cond.instanceMethod ⟨"PreferTable$ValueOrder", "distance", "(I)J"⟩ ∈ lw_tbl := ev_mem 293 (by decide +kernel)
theorem wd_294 : Cond.instantiable "PreferTable$ValueOrder" 7 ∈ lw_tbl := ev_mem 294 (by decide +kernel)
theorem wd_295 : Cond.code ⟨"PreferTable$ValueOrder", "distance", "(I)J"⟩ prog_12_method_3_code 2 (Option.some Jvm.ClassFile.FieldType.long) ∈ lw_tbl := ev_mem 295 (by decide +kernel)
theorem wd_296 : Cond.selects "PreferTable$Layers" ⟨"PreferTable$Node", "says", "([I[I)I"⟩ ⟨"PreferTable$Order", "says", "([I[I)I"⟩ ∈ lw_tbl := ev_mem 296 (by decide +kernel)
theorem wd_297 : Cond.selects "PreferTable$Term" ⟨"PreferTable$Node", "says", "([I[I)I"⟩ ⟨"PreferTable$Term", "says", "([I[I)I"⟩ ∈ lw_tbl := ev_mem 297 (by decide +kernel)
theorem wd_298 : Cond.instanceMethod ⟨"PreferTable$Term", "says", "([I[I)I"⟩ ∈ lw_tbl := ev_mem 298 (by decide +kernel)
theorem wd_299 : Cond.code ⟨"PreferTable$Term", "says", "([I[I)I"⟩ prog_11_method_3_code 5 (Option.some Jvm.ClassFile.FieldType.int) ∈ lw_tbl := ev_mem 299 (by decide +kernel)
theorem wd_300 : Cond.methodLink "PreferTable$Term" 29 ⟨"PreferTable$Node", "says", "([I[I)I"⟩ ∈ lw_tbl := ev_mem 300 (by decide +kernel)
theorem wd_301 : Cond.methodLink "PreferTable$Term" 36 ⟨"PreferTable$Term", "changedOver", "(I)I"⟩ ∈ lw_tbl := ev_mem 301 (by decide +kernel)
theorem wd_302 : Cond.static ⟨"PreferTable$Term", "changedOver", "(I)I"⟩ ∈ lw_tbl := ev_mem 302 (by decide +kernel)
theorem wd_303 : Cond.code ⟨"PreferTable$Term", "changedOver", "(I)I"⟩ prog_11_method_4_code 1 (Option.some Jvm.ClassFile.FieldType.int) ∈ lw_tbl := ev_mem 303 (by decide +kernel)
theorem wd_304 : Cond.methodLink "PreferTable$Term" 40 ⟨"PreferTable$Term", "paretoOf", "(II)I"⟩ ∈ lw_tbl := ev_mem 304 (by decide +kernel)
theorem wd_305 : Cond.static ⟨"PreferTable$Term", "paretoOf", "(II)I"⟩ ∈ lw_tbl := ev_mem 305 (by decide +kernel)
theorem wd_306 : Cond.code ⟨"PreferTable$Term", "paretoOf", "(II)I"⟩ prog_11_method_5_code 2 (Option.some Jvm.ClassFile.FieldType.int) ∈ lw_tbl := ev_mem 306 (by decide +kernel)
theorem wd_307 : Cond.selects "PreferTable$ValueOrder" ⟨"PreferTable$Node", "says", "([I[I)I"⟩ ⟨"PreferTable$Order", "says", "([I[I)I"⟩ ∈ lw_tbl := ev_mem 307 (by decide +kernel)
theorem wd_308 : Cond.methodLink "PreferTable$Contest" 45 ⟨"PreferTable$Contest", "note", "(III)V"⟩ ∈ lw_tbl := ev_mem 308 (by decide +kernel)
theorem wd_310 : Cond.instanceMethod ⟨"PreferTable$Contest", "note", "(III)V"⟩ ∈ lw_tbl := ev_mem 310 (by decide +kernel)
theorem wd_311 : Cond.code ⟨"PreferTable$Contest", "note", "(III)V"⟩ prog_3_method_4_code 4 Option.none ∈ lw_tbl := ev_mem 311 (by decide +kernel)
theorem wd_312 : Cond.methodLink "PreferTable" 177 ⟨"PreferTable$Contest", "listUnbeaten", "(LPreferTable$Rows;LPreferTable$RowList;)V"⟩ ∈ lw_tbl := ev_mem 312 (by decide +kernel)
theorem wd_313 : Cond.instanceMethod ⟨"PreferTable$Contest", "listUnbeaten", "(LPreferTable$Rows;LPreferTable$RowList;)V"⟩ ∈ lw_tbl := ev_mem 313 (by decide +kernel)
theorem wd_314 : Cond.selects "PreferTable$Contest" ⟨"PreferTable$Contest", "listUnbeaten", "(LPreferTable$Rows;LPreferTable$RowList;)V"⟩ ⟨"PreferTable$Contest", "listUnbeaten", "(LPreferTable$Rows;LPreferTable$RowList;)V"⟩ ∈ lw_tbl := ev_mem 314 (by decide +kernel)
theorem wd_315 : Cond.code ⟨"PreferTable$Contest", "listUnbeaten", "(LPreferTable$Rows;LPreferTable$RowList;)V"⟩ prog_3_method_7_code 4 Option.none ∈ lw_tbl := ev_mem 315 (by decide +kernel)
theorem wd_316 : Cond.methodLink "PreferTable$Contest" 55 ⟨"PreferTable$RowList", "clear", "()V"⟩ ∈ lw_tbl := ev_mem 316 (by decide +kernel)
theorem wd_317 : Cond.instanceMethod ⟨"PreferTable$RowList", "clear", "()V"⟩ ∈ lw_tbl := ev_mem 317 (by decide +kernel)
theorem wd_318 : Cond.selects "PreferTable$RowList" ⟨"PreferTable$RowList", "clear", "()V"⟩ ⟨"PreferTable$RowList", "clear", "()V"⟩ ∈ lw_tbl := ev_mem 318 (by decide +kernel)
theorem wd_319 : Cond.code ⟨"PreferTable$RowList", "clear", "()V"⟩ prog_9_method_2_code 1 Option.none ∈ lw_tbl := ev_mem 319 (by decide +kernel)
theorem wd_320 : Cond.methodLink "PreferTable$Contest" 63 ⟨"PreferTable$RowList", "add", "(I)V"⟩ ∈ lw_tbl := ev_mem 320 (by decide +kernel)
theorem wd_321 : Cond.instanceMethod ⟨"PreferTable$RowList", "add", "(I)V"⟩ ∈ lw_tbl := ev_mem 321 (by decide +kernel)
theorem wd_322 : Cond.selects "PreferTable$RowList" ⟨"PreferTable$RowList", "add", "(I)V"⟩ ⟨"PreferTable$RowList", "add", "(I)V"⟩ ∈ lw_tbl := ev_mem 322 (by decide +kernel)
theorem wd_323 : Cond.code ⟨"PreferTable$RowList", "add", "(I)V"⟩ prog_9_method_3_code 2 Option.none ∈ lw_tbl := ev_mem 323 (by decide +kernel)
theorem wd_324 : Cond.methodLink "PreferTableLaw" 143 ⟨"PreferTable", "read", "(I)Z"⟩ ∈ lw_tbl := ev_mem 324 (by decide +kernel)
theorem wd_325 : Cond.instanceMethod ⟨"PreferTable", "read", "(I)Z"⟩ ∈ lw_tbl := ev_mem 325 (by decide +kernel)
theorem wd_326 : Cond.selects "PreferTable" ⟨"PreferTable", "read", "(I)Z"⟩ ⟨"PreferTable", "read", "(I)Z"⟩ ∈ lw_tbl := ev_mem 326 (by decide +kernel)
theorem wd_327 : Cond.code ⟨"PreferTable", "read", "(I)Z"⟩ prog_1_method_21_code 2 (Option.some Jvm.ClassFile.FieldType.boolean) ∈ lw_tbl := ev_mem 327 (by decide +kernel)
theorem wd_328 : Cond.methodLink "PreferTable" 217 ⟨"PreferTable", "markRead", "(LPreferTable$Question;)V"⟩ ∈ lw_tbl := ev_mem 328 (by decide +kernel)
theorem wd_330 : Cond.instanceMethod ⟨"PreferTable", "markRead", "(LPreferTable$Question;)V"⟩ ∈ lw_tbl := ev_mem 330 (by decide +kernel)
theorem wd_331 : Cond.code ⟨"PreferTable", "markRead", "(LPreferTable$Question;)V"⟩ prog_1_method_34_code 2 Option.none ∈ lw_tbl := ev_mem 331 (by decide +kernel)
theorem wd_332 : Cond.methodLink "PreferTable" 278 ⟨"PreferTable$RowList", "copyFrom", "(LPreferTable$RowList;)V"⟩ ∈ lw_tbl := ev_mem 332 (by decide +kernel)
theorem wd_333 : Cond.instanceMethod ⟨"PreferTable$RowList", "copyFrom", "(LPreferTable$RowList;)V"⟩ ∈ lw_tbl := ev_mem 333 (by decide +kernel)
theorem wd_334 : Cond.selects "PreferTable$RowList" ⟨"PreferTable$RowList", "copyFrom", "(LPreferTable$RowList;)V"⟩ ⟨"PreferTable$RowList", "copyFrom", "(LPreferTable$RowList;)V"⟩ ∈ lw_tbl := ev_mem 334 (by decide +kernel)
theorem wd_335 : Cond.code ⟨"PreferTable$RowList", "copyFrom", "(LPreferTable$RowList;)V"⟩ prog_9_method_4_code 2 Option.none ∈ lw_tbl := ev_mem 335 (by decide +kernel)
theorem wd_336 : Cond.methodLink "PreferTable$RowList" 19 ⟨"java/lang/System", "arraycopy", "(Ljava/lang/Object;ILjava/lang/Object;II)V"⟩ ∈ lw_tbl := ev_mem 336 (by decide +kernel)
theorem wd_337 : Cond.methodLink "PreferTableLaw" 69 ⟨"PreferTableLaw", "row", "(LPreferTable;IIII[J)I"⟩ ∈ lw_tbl := ev_mem 337 (by decide +kernel)
theorem wd_338 : Cond.static ⟨"PreferTableLaw", "row", "(LPreferTable;IIII[J)I"⟩ ∈ lw_tbl := ev_mem 338 (by decide +kernel)
theorem wd_339 : Cond.codeWith ⟨"PreferTableLaw", "row", "(LPreferTable;IIII[J)I"⟩ method_3_code 7 (Option.some Jvm.ClassFile.FieldType.int) [(0, 14, 17, 13)] ∈ lw_tbl := ev_mem 339 (by decide +kernel)
theorem wd_341 : Cond.methodLink "PreferTableLaw" 7 ⟨"PreferTable", "row", "(IIII)I"⟩ ∈ lw_tbl := ev_mem 341 (by decide +kernel)
theorem wd_342 : Cond.instanceMethod ⟨"PreferTable", "row", "(IIII)I"⟩ ∈ lw_tbl := ev_mem 342 (by decide +kernel)
theorem wd_343 : Cond.selects "PreferTable" ⟨"PreferTable", "row", "(IIII)I"⟩ ⟨"PreferTable", "row", "(IIII)I"⟩ ∈ lw_tbl := ev_mem 343 (by decide +kernel)
theorem wd_344 : Cond.code ⟨"PreferTable", "row", "(IIII)I"⟩ prog_1_method_2_code 5 (Option.some Jvm.ClassFile.FieldType.int) ∈ lw_tbl := ev_mem 344 (by decide +kernel)
theorem wd_345 : Cond.methodLink "PreferTable" 67 ⟨"PreferTable$Rows", "isFull", "()Z"⟩ ∈ lw_tbl := ev_mem 345 (by decide +kernel)
theorem wd_346 : Cond.instanceMethod ⟨"PreferTable$Rows", "isFull", "()Z"⟩ ∈ lw_tbl := ev_mem 346 (by decide +kernel)
theorem wd_347 : Cond.selects "PreferTable$Rows" ⟨"PreferTable$Rows", "isFull", "()Z"⟩ ⟨"PreferTable$Rows", "isFull", "()Z"⟩ ∈ lw_tbl := ev_mem 347 (by decide +kernel)
theorem wd_348 : Cond.code ⟨"PreferTable$Rows", "isFull", "()Z"⟩ prog_10_method_2_code 1 (Option.some Jvm.ClassFile.FieldType.boolean) ∈ lw_tbl := ev_mem 348 (by decide +kernel)
theorem wd_349 : Cond.classLink "PreferTable" 71 "java/lang/IllegalStateException" ∈ lw_tbl := ev_mem 349 (by decide +kernel)
theorem wd_391 : Cond.methodLink "PreferTable" 75 ⟨"java/lang/IllegalStateException", "<init>", "(Ljava/lang/String;)V"⟩ ∈ lw_tbl := ev_mem 391 (by decide +kernel)
theorem wd_417 : Cond.methodLink "PreferTable" 78 ⟨"PreferTable$Rows", "add", "(IIII)I"⟩ ∈ lw_tbl := ev_mem 417 (by decide +kernel)
theorem wd_418 : Cond.instanceMethod ⟨"PreferTable$Rows", "add", "(IIII)I"⟩ ∈ lw_tbl := ev_mem 418 (by decide +kernel)
theorem wd_419 : Cond.selects "PreferTable$Rows" ⟨"PreferTable$Rows", "add", "(IIII)I"⟩ ⟨"PreferTable$Rows", "add", "(IIII)I"⟩ ∈ lw_tbl := ev_mem 419 (by decide +kernel)
theorem wd_420 : Cond.code ⟨"PreferTable$Rows", "add", "(IIII)I"⟩ prog_10_method_3_code 6 (Option.some Jvm.ClassFile.FieldType.int) ∈ lw_tbl := ev_mem 420 (by decide +kernel)
theorem wd_421 : Cond.methodLink "PreferTableLaw" 88 ⟨"PreferTableLaw", "value", "(LPreferTable;II[J)I"⟩ ∈ lw_tbl := ev_mem 421 (by decide +kernel)
theorem wd_422 : Cond.static ⟨"PreferTableLaw", "value", "(LPreferTable;II[J)I"⟩ ∈ lw_tbl := ev_mem 422 (by decide +kernel)
theorem wd_423 : Cond.codeWith ⟨"PreferTableLaw", "value", "(LPreferTable;II[J)I"⟩ method_4_code 5 (Option.some Jvm.ClassFile.FieldType.int) [(0, 10, 13, 19)] ∈ lw_tbl := ev_mem 423 (by decide +kernel)
theorem wd_425 : Cond.methodLink "PreferTableLaw" 15 ⟨"PreferTable", "value", "(II)I"⟩ ∈ lw_tbl := ev_mem 425 (by decide +kernel)
theorem wd_426 : Cond.instanceMethod ⟨"PreferTable", "value", "(II)I"⟩ ∈ lw_tbl := ev_mem 426 (by decide +kernel)
theorem wd_427 : Cond.selects "PreferTable" ⟨"PreferTable", "value", "(II)I"⟩ ⟨"PreferTable", "value", "(II)I"⟩ ∈ lw_tbl := ev_mem 427 (by decide +kernel)
theorem wd_428 : Cond.code ⟨"PreferTable", "value", "(II)I"⟩ prog_1_method_5_code 4 (Option.some Jvm.ClassFile.FieldType.int) ∈ lw_tbl := ev_mem 428 (by decide +kernel)
theorem wd_429 : Cond.classLink "PreferTable" 98 "java/lang/IndexOutOfBoundsException" ∈ lw_tbl := ev_mem 429 (by decide +kernel)
theorem wd_439 : Cond.methodLink "PreferTable" 102 ⟨"java/lang/IndexOutOfBoundsException", "<init>", "(Ljava/lang/String;)V"⟩ ∈ lw_tbl := ev_mem 439 (by decide +kernel)
theorem wd_445 : Cond.methodLink "PreferTableLaw" 92 ⟨"PreferTableLaw", "order", "(LPreferTable;IIII[J)I"⟩ ∈ lw_tbl := ev_mem 445 (by decide +kernel)
theorem wd_446 : Cond.static ⟨"PreferTableLaw", "order", "(LPreferTable;IIII[J)I"⟩ ∈ lw_tbl := ev_mem 446 (by decide +kernel)
theorem wd_447 : Cond.codeWith ⟨"PreferTableLaw", "order", "(LPreferTable;IIII[J)I"⟩ method_5_code 7 (Option.some Jvm.ClassFile.FieldType.int) [(0, 14, 17, 24), (0, 14, 21, 13)] ∈ lw_tbl := ev_mem 447 (by decide +kernel)
theorem wd_449 : Cond.methodLink "PreferTableLaw" 21 ⟨"PreferTable", "order", "(IIII)I"⟩ ∈ lw_tbl := ev_mem 449 (by decide +kernel)
theorem wd_450 : Cond.instanceMethod ⟨"PreferTable", "order", "(IIII)I"⟩ ∈ lw_tbl := ev_mem 450 (by decide +kernel)
theorem wd_451 : Cond.selects "PreferTable" ⟨"PreferTable", "order", "(IIII)I"⟩ ⟨"PreferTable", "order", "(IIII)I"⟩ ∈ lw_tbl := ev_mem 451 (by decide +kernel)
theorem wd_452 : Cond.code ⟨"PreferTable", "order", "(IIII)I"⟩ prog_1_method_6_code 5 (Option.some Jvm.ClassFile.FieldType.int) ∈ lw_tbl := ev_mem 452 (by decide +kernel)
theorem wd_453 : Cond.classLink "PreferTable" 103 "java/lang/IllegalArgumentException" ∈ lw_tbl := ev_mem 453 (by decide +kernel)
theorem wd_463 : Cond.methodLink "PreferTable" 107 ⟨"java/lang/IllegalArgumentException", "<init>", "(Ljava/lang/String;)V"⟩ ∈ lw_tbl := ev_mem 463 (by decide +kernel)
theorem wd_470 : Cond.methodLink "PreferTable" 110 ⟨"PreferTable", "newOrder", "(IIII)LPreferTable$Node;"⟩ ∈ lw_tbl := ev_mem 470 (by decide +kernel)
theorem wd_472 : Cond.instanceMethod ⟨"PreferTable", "newOrder", "(IIII)LPreferTable$Node;"⟩ ∈ lw_tbl := ev_mem 472 (by decide +kernel)
theorem wd_473 : Cond.code ⟨"PreferTable", "newOrder", "(IIII)LPreferTable$Node;"⟩ prog_1_method_29_code 5 (Option.some (Jvm.ClassFile.FieldType.object "PreferTable$Node")) ∈ lw_tbl := ev_mem 473 (by decide +kernel)
theorem wd_474 : Cond.methodLink "PreferTable" 243 ⟨"PreferTable$Layers", "<init>", "(II)V"⟩ ∈ lw_tbl := ev_mem 474 (by decide +kernel)
theorem wd_475 : Cond.instanceMethod ⟨"PreferTable$Layers", "<init>", "(II)V"⟩ ∈ lw_tbl := ev_mem 475 (by decide +kernel)
theorem wd_476 : Cond.code ⟨"PreferTable$Layers", "<init>", "(II)V"⟩ prog_5_method_1_code 4 Option.none ∈ lw_tbl := ev_mem 476 (by decide +kernel)
theorem wd_477 : Cond.methodLink "PreferTable$Layers" 3 ⟨"PreferTable$Order", "<init>", "(III)V"⟩ ∈ lw_tbl := ev_mem 477 (by decide +kernel)
theorem wd_478 : Cond.instanceMethod ⟨"PreferTable$Order", "<init>", "(III)V"⟩ ∈ lw_tbl := ev_mem 478 (by decide +kernel)
theorem wd_479 : Cond.code ⟨"PreferTable$Order", "<init>", "(III)V"⟩ prog_7_method_1_code 4 Option.none ∈ lw_tbl := ev_mem 479 (by decide +kernel)
theorem wd_480 : Cond.methodLink "PreferTable$Order" 3 ⟨"PreferTable$Node", "<init>", "(IIII)V"⟩ ∈ lw_tbl := ev_mem 480 (by decide +kernel)
theorem wd_481 : Cond.instanceMethod ⟨"PreferTable$Node", "<init>", "(IIII)V"⟩ ∈ lw_tbl := ev_mem 481 (by decide +kernel)
theorem wd_482 : Cond.code ⟨"PreferTable$Node", "<init>", "(IIII)V"⟩ prog_6_method_1_code 5 Option.none ∈ lw_tbl := ev_mem 482 (by decide +kernel)
theorem wd_483 : Cond.methodLink "PreferTable$Node" 1 ⟨"java/lang/Object", "<init>", "()V"⟩ ∈ lw_tbl := ev_mem 483 (by decide +kernel)
theorem wd_484 : Cond.fieldLink "PreferTable$Layers" 9 "PreferTable$Layers" "layerOf" "[I" ∈ lw_tbl := ev_mem 484 (by decide +kernel)
theorem wd_485 : Cond.fieldLink "PreferTable" 126 "PreferTable$Layers" "layerOf" "[I" ∈ lw_tbl := ev_mem 485 (by decide +kernel)
theorem wd_486 : Cond.fieldLink "PreferTable$Order" 9 "PreferTable$Order" "column" "I" ∈ lw_tbl := ev_mem 486 (by decide +kernel)
theorem wd_487 : Cond.fieldLink "PreferTable$Node" 7 "PreferTable$Node" "kind" "I" ∈ lw_tbl := ev_mem 487 (by decide +kernel)
theorem wd_488 : Cond.fieldLink "PreferTable$ValueOrder" 18 "PreferTable$ValueOrder" "kind" "I" ∈ lw_tbl := ev_mem 488 (by decide +kernel)
theorem wd_489 : Cond.sameField "PreferTable$ValueOrder" "PreferTable$Node" "kind" "I" ∈ lw_tbl := ev_mem 489 (by decide +kernel)
theorem wd_490 : Cond.fieldLink "PreferTable$Term" 33 "PreferTable$Term" "kind" "I" ∈ lw_tbl := ev_mem 490 (by decide +kernel)
theorem wd_491 : Cond.sameField "PreferTable$Term" "PreferTable$Node" "kind" "I" ∈ lw_tbl := ev_mem 491 (by decide +kernel)
theorem wd_492 : Cond.fieldLink "PreferTable$Order" 19 "PreferTable$Order" "kind" "I" ∈ lw_tbl := ev_mem 492 (by decide +kernel)
theorem wd_493 : Cond.sameField "PreferTable$Order" "PreferTable$Node" "kind" "I" ∈ lw_tbl := ev_mem 493 (by decide +kernel)
theorem wd_494 : Cond.fieldLink "PreferTable" 271 "PreferTable$Term" "kind" "I" ∈ lw_tbl := ev_mem 494 (by decide +kernel)
theorem wd_495 : Cond.fieldLink "PreferTable$Node" 13 "PreferTable$Node" "number" "I" ∈ lw_tbl := ev_mem 495 (by decide +kernel)
theorem wd_496 : Cond.fieldLink "PreferTable$Order" 26 "PreferTable$Order" "number" "I" ∈ lw_tbl := ev_mem 496 (by decide +kernel)
theorem wd_497 : Cond.sameField "PreferTable$Order" "PreferTable$Node" "number" "I" ∈ lw_tbl := ev_mem 497 (by decide +kernel)
theorem wd_498 : Cond.fieldLink "PreferTable" 252 "PreferTable$Node" "number" "I" ∈ lw_tbl := ev_mem 498 (by decide +kernel)
theorem wd_499 : Cond.fieldLink "PreferTable$Node" 16 "PreferTable$Node" "size" "I" ∈ lw_tbl := ev_mem 499 (by decide +kernel)
theorem wd_500 : Cond.fieldLink "PreferTable$Term" 26 "PreferTable$Node" "size" "I" ∈ lw_tbl := ev_mem 500 (by decide +kernel)
theorem wd_501 : Cond.fieldLink "PreferTable$Term" 9 "PreferTable$Node" "columns" "I" ∈ lw_tbl := ev_mem 501 (by decide +kernel)
theorem wd_502 : Cond.fieldLink "PreferTable$Node" 19 "PreferTable$Node" "columns" "I" ∈ lw_tbl := ev_mem 502 (by decide +kernel)
theorem wd_516 : Cond.classLink "PreferTable" 131 "PreferTable$Graph" ∈ lw_tbl := ev_mem 516 (by decide +kernel)
theorem wd_517 : Cond.instantiable "PreferTable$Graph" 7 ∈ lw_tbl := ev_mem 517 (by decide +kernel)
theorem wd_518 : Cond.methodLink "PreferTable" 246 ⟨"PreferTable$Graph", "<init>", "(II)V"⟩ ∈ lw_tbl := ev_mem 518 (by decide +kernel)
theorem wd_519 : Cond.instanceMethod ⟨"PreferTable$Graph", "<init>", "(II)V"⟩ ∈ lw_tbl := ev_mem 519 (by decide +kernel)
theorem wd_520 : Cond.code ⟨"PreferTable$Graph", "<init>", "(II)V"⟩ prog_4_method_1_code 3 Option.none ∈ lw_tbl := ev_mem 520 (by decide +kernel)
theorem wd_521 : Cond.methodLink "PreferTable$Graph" 3 ⟨"PreferTable$Order", "<init>", "(III)V"⟩ ∈ lw_tbl := ev_mem 521 (by decide +kernel)
theorem wd_522 : Cond.fieldLink "PreferTable$Graph" 9 "PreferTable$Graph" "edges" "[I" ∈ lw_tbl := ev_mem 522 (by decide +kernel)
theorem wd_523 : Cond.fieldLink "PreferTable$Graph" 15 "PreferTable$Graph" "reached" "[I" ∈ lw_tbl := ev_mem 523 (by decide +kernel)
theorem wd_534 : Cond.classLink "PreferTable" 247 "PreferTable$ValueOrder" ∈ lw_tbl := ev_mem 534 (by decide +kernel)
theorem wd_535 : Cond.methodLink "PreferTable" 249 ⟨"PreferTable$ValueOrder", "<init>", "(IIIII)V"⟩ ∈ lw_tbl := ev_mem 535 (by decide +kernel)
theorem wd_536 : Cond.instanceMethod ⟨"PreferTable$ValueOrder", "<init>", "(IIIII)V"⟩ ∈ lw_tbl := ev_mem 536 (by decide +kernel)
theorem wd_537 : Cond.code ⟨"PreferTable$ValueOrder", "<init>", "(IIIII)V"⟩ prog_12_method_1_code 6 Option.none ∈ lw_tbl := ev_mem 537 (by decide +kernel)
theorem wd_538 : Cond.methodLink "PreferTable$ValueOrder" 3 ⟨"PreferTable$Order", "<init>", "(III)V"⟩ ∈ lw_tbl := ev_mem 538 (by decide +kernel)
theorem wd_539 : Cond.fieldLink "PreferTable$ValueOrder" 9 "PreferTable$ValueOrder" "from" "I" ∈ lw_tbl := ev_mem 539 (by decide +kernel)
theorem wd_540 : Cond.fieldLink "PreferTable$ValueOrder" 15 "PreferTable$ValueOrder" "to" "I" ∈ lw_tbl := ev_mem 540 (by decide +kernel)
theorem wd_551 : Cond.methodLink "PreferTable" 114 ⟨"PreferTable", "addNode", "(LPreferTable$Node;)I"⟩ ∈ lw_tbl := ev_mem 551 (by decide +kernel)
theorem wd_553 : Cond.instanceMethod ⟨"PreferTable", "addNode", "(LPreferTable$Node;)I"⟩ ∈ lw_tbl := ev_mem 553 (by decide +kernel)
theorem wd_554 : Cond.code ⟨"PreferTable", "addNode", "(LPreferTable$Node;)I"⟩ prog_1_method_30_code 2 (Option.some Jvm.ClassFile.FieldType.int) ∈ lw_tbl := ev_mem 554 (by decide +kernel)
theorem wd_555 : Cond.methodLink "PreferTableLaw" 99 ⟨"PreferTableLaw", "edge", "(LPreferTable;III[J)I"⟩ ∈ lw_tbl := ev_mem 555 (by decide +kernel)
theorem wd_556 : Cond.static ⟨"PreferTableLaw", "edge", "(LPreferTable;III[J)I"⟩ ∈ lw_tbl := ev_mem 556 (by decide +kernel)
theorem wd_557 : Cond.codeWith ⟨"PreferTableLaw", "edge", "(LPreferTable;III[J)I"⟩ method_6_code 6 (Option.some Jvm.ClassFile.FieldType.int) [(0, 19, 22, 24), (0, 19, 26, 13)] ∈ lw_tbl := ev_mem 557 (by decide +kernel)
theorem wd_558 : Cond.methodLink "PreferTableLaw" 26 ⟨"PreferTable", "edge", "(III)Z"⟩ ∈ lw_tbl := ev_mem 558 (by decide +kernel)
theorem wd_559 : Cond.instanceMethod ⟨"PreferTable", "edge", "(III)Z"⟩ ∈ lw_tbl := ev_mem 559 (by decide +kernel)
theorem wd_560 : Cond.selects "PreferTable" ⟨"PreferTable", "edge", "(III)Z"⟩ ⟨"PreferTable", "edge", "(III)Z"⟩ ∈ lw_tbl := ev_mem 560 (by decide +kernel)
theorem wd_561 : Cond.code ⟨"PreferTable", "edge", "(III)Z"⟩ prog_1_method_8_code 6 (Option.some Jvm.ClassFile.FieldType.boolean) ∈ lw_tbl := ev_mem 561 (by decide +kernel)
theorem wd_563 : Cond.methodLink "PreferTable" 133 ⟨"PreferTable", "addEdge", "(LPreferTable$Graph;II)Z"⟩ ∈ lw_tbl := ev_mem 563 (by decide +kernel)
theorem wd_565 : Cond.instanceMethod ⟨"PreferTable", "addEdge", "(LPreferTable$Graph;II)Z"⟩ ∈ lw_tbl := ev_mem 565 (by decide +kernel)
theorem wd_566 : Cond.code ⟨"PreferTable", "addEdge", "(LPreferTable$Graph;II)Z"⟩ prog_1_method_31_code 4 (Option.some Jvm.ClassFile.FieldType.boolean) ∈ lw_tbl := ev_mem 566 (by decide +kernel)
theorem wd_567 : Cond.methodLink "PreferTable" 255 ⟨"PreferTable$Graph", "leads", "(II)Z"⟩ ∈ lw_tbl := ev_mem 567 (by decide +kernel)
theorem wd_569 : Cond.methodLink "PreferTable" 261 ⟨"PreferTable$Graph", "hasEdge", "(II)Z"⟩ ∈ lw_tbl := ev_mem 569 (by decide +kernel)
theorem wd_570 : Cond.instanceMethod ⟨"PreferTable$Graph", "hasEdge", "(II)Z"⟩ ∈ lw_tbl := ev_mem 570 (by decide +kernel)
theorem wd_571 : Cond.selects "PreferTable$Graph" ⟨"PreferTable$Graph", "hasEdge", "(II)Z"⟩ ⟨"PreferTable$Graph", "hasEdge", "(II)Z"⟩ ∈ lw_tbl := ev_mem 571 (by decide +kernel)
theorem wd_572 : Cond.code ⟨"PreferTable$Graph", "hasEdge", "(II)Z"⟩ prog_4_method_4_code 3 (Option.some Jvm.ClassFile.FieldType.boolean) ∈ lw_tbl := ev_mem 572 (by decide +kernel)
theorem wd_573 : Cond.methodLink "PreferTable" 264 ⟨"PreferTable$Graph", "join", "(II)V"⟩ ∈ lw_tbl := ev_mem 573 (by decide +kernel)
theorem wd_574 : Cond.instanceMethod ⟨"PreferTable$Graph", "join", "(II)V"⟩ ∈ lw_tbl := ev_mem 574 (by decide +kernel)
theorem wd_575 : Cond.selects "PreferTable$Graph" ⟨"PreferTable$Graph", "join", "(II)V"⟩ ⟨"PreferTable$Graph", "join", "(II)V"⟩ ∈ lw_tbl := ev_mem 575 (by decide +kernel)
theorem wd_576 : Cond.code ⟨"PreferTable$Graph", "join", "(II)V"⟩ prog_4_method_5_code 5 Option.none ∈ lw_tbl := ev_mem 576 (by decide +kernel)
theorem wd_578 : Cond.methodLink "PreferTableLaw" 103 ⟨"PreferTableLaw", "term", "(LPreferTable;III[J)I"⟩ ∈ lw_tbl := ev_mem 578 (by decide +kernel)
theorem wd_579 : Cond.static ⟨"PreferTableLaw", "term", "(LPreferTable;III[J)I"⟩ ∈ lw_tbl := ev_mem 579 (by decide +kernel)
theorem wd_580 : Cond.codeWith ⟨"PreferTableLaw", "term", "(LPreferTable;III[J)I"⟩ method_7_code 6 (Option.some Jvm.ClassFile.FieldType.int) [(0, 12, 15, 24), (0, 12, 19, 13)] ∈ lw_tbl := ev_mem 580 (by decide +kernel)
theorem wd_581 : Cond.methodLink "PreferTableLaw" 30 ⟨"PreferTable", "term", "(III)I"⟩ ∈ lw_tbl := ev_mem 581 (by decide +kernel)
theorem wd_582 : Cond.instanceMethod ⟨"PreferTable", "term", "(III)I"⟩ ∈ lw_tbl := ev_mem 582 (by decide +kernel)
theorem wd_583 : Cond.selects "PreferTable" ⟨"PreferTable", "term", "(III)I"⟩ ⟨"PreferTable", "term", "(III)I"⟩ ∈ lw_tbl := ev_mem 583 (by decide +kernel)
theorem wd_584 : Cond.code ⟨"PreferTable", "term", "(III)I"⟩ prog_1_method_9_code 6 (Option.some Jvm.ClassFile.FieldType.int) ∈ lw_tbl := ev_mem 584 (by decide +kernel)
theorem wd_586 : Cond.methodLink "PreferTable" 141 ⟨"PreferTable$Term", "sizeOf", "(ILPreferTable$Node;LPreferTable$Node;)I"⟩ ∈ lw_tbl := ev_mem 586 (by decide +kernel)
theorem wd_587 : Cond.static ⟨"PreferTable$Term", "sizeOf", "(ILPreferTable$Node;LPreferTable$Node;)I"⟩ ∈ lw_tbl := ev_mem 587 (by decide +kernel)
theorem wd_588 : Cond.code ⟨"PreferTable$Term", "sizeOf", "(ILPreferTable$Node;LPreferTable$Node;)I"⟩ prog_11_method_2_code 3 (Option.some Jvm.ClassFile.FieldType.int) ∈ lw_tbl := ev_mem 588 (by decide +kernel)
theorem wd_590 : Cond.classLink "PreferTable" 142 "PreferTable$Term" ∈ lw_tbl := ev_mem 590 (by decide +kernel)
theorem wd_591 : Cond.instantiable "PreferTable$Term" 6 ∈ lw_tbl := ev_mem 591 (by decide +kernel)
theorem wd_592 : Cond.methodLink "PreferTable" 149 ⟨"PreferTable$Term", "<init>", "(IILPreferTable$Node;LPreferTable$Node;)V"⟩ ∈ lw_tbl := ev_mem 592 (by decide +kernel)
theorem wd_593 : Cond.instanceMethod ⟨"PreferTable$Term", "<init>", "(IILPreferTable$Node;LPreferTable$Node;)V"⟩ ∈ lw_tbl := ev_mem 593 (by decide +kernel)
theorem wd_594 : Cond.code ⟨"PreferTable$Term", "<init>", "(IILPreferTable$Node;LPreferTable$Node;)V"⟩ prog_11_method_1_code 5 Option.none ∈ lw_tbl := ev_mem 594 (by decide +kernel)
theorem wd_595 : Cond.methodLink "PreferTable$Term" 3 ⟨"PreferTable$Term", "sizeOf", "(ILPreferTable$Node;LPreferTable$Node;)I"⟩ ∈ lw_tbl := ev_mem 595 (by decide +kernel)
theorem wd_596 : Cond.methodLink "PreferTable$Term" 15 ⟨"PreferTable$Node", "<init>", "(IIII)V"⟩ ∈ lw_tbl := ev_mem 596 (by decide +kernel)
theorem wd_597 : Cond.fieldLink "PreferTable$Term" 19 "PreferTable$Term" "p" "LPreferTable$Node;" ∈ lw_tbl := ev_mem 597 (by decide +kernel)
theorem wd_598 : Cond.fieldLink "PreferTable$Term" 23 "PreferTable$Term" "q" "LPreferTable$Node;" ∈ lw_tbl := ev_mem 598 (by decide +kernel)
theorem wd_608 : Cond.methodLink "PreferTableLaw" 106 ⟨"PreferTableLaw", "condition", "(LPreferTable;III[J)I"⟩ ∈ lw_tbl := ev_mem 608 (by decide +kernel)
theorem wd_609 : Cond.static ⟨"PreferTableLaw", "condition", "(LPreferTable;III[J)I"⟩ ∈ lw_tbl := ev_mem 609 (by decide +kernel)
theorem wd_610 : Cond.codeWith ⟨"PreferTableLaw", "condition", "(LPreferTable;III[J)I"⟩ method_8_code 6 (Option.some Jvm.ClassFile.FieldType.int) [(0, 12, 15, 24), (0, 12, 19, 13)] ∈ lw_tbl := ev_mem 610 (by decide +kernel)
theorem wd_611 : Cond.methodLink "PreferTableLaw" 34 ⟨"PreferTable", "condition", "(III)I"⟩ ∈ lw_tbl := ev_mem 611 (by decide +kernel)
theorem wd_612 : Cond.instanceMethod ⟨"PreferTable", "condition", "(III)I"⟩ ∈ lw_tbl := ev_mem 612 (by decide +kernel)
theorem wd_613 : Cond.selects "PreferTable" ⟨"PreferTable", "condition", "(III)I"⟩ ⟨"PreferTable", "condition", "(III)I"⟩ ∈ lw_tbl := ev_mem 613 (by decide +kernel)
theorem wd_614 : Cond.code ⟨"PreferTable", "condition", "(III)I"⟩ prog_1_method_10_code 4 (Option.some Jvm.ClassFile.FieldType.int) ∈ lw_tbl := ev_mem 614 (by decide +kernel)
theorem wd_617 : Cond.methodLink "PreferTable" 159 ⟨"PreferTable$Conditions", "add", "(III)V"⟩ ∈ lw_tbl := ev_mem 617 (by decide +kernel)
theorem wd_618 : Cond.instanceMethod ⟨"PreferTable$Conditions", "add", "(III)V"⟩ ∈ lw_tbl := ev_mem 618 (by decide +kernel)
theorem wd_619 : Cond.selects "PreferTable$Conditions" ⟨"PreferTable$Conditions", "add", "(III)V"⟩ ⟨"PreferTable$Conditions", "add", "(III)V"⟩ ∈ lw_tbl := ev_mem 619 (by decide +kernel)
theorem wd_620 : Cond.code ⟨"PreferTable$Conditions", "add", "(III)V"⟩ prog_2_method_3_code 4 Option.none ∈ lw_tbl := ev_mem 620 (by decide +kernel)
theorem wd_621 : Cond.methodLink "PreferTableLaw" 113 ⟨"PreferTableLaw", "compare", "(LPreferTable;III[J)I"⟩ ∈ lw_tbl := ev_mem 621 (by decide +kernel)
theorem wd_622 : Cond.static ⟨"PreferTableLaw", "compare", "(LPreferTable;III[J)I"⟩ ∈ lw_tbl := ev_mem 622 (by decide +kernel)
theorem wd_623 : Cond.codeWith ⟨"PreferTableLaw", "compare", "(LPreferTable;III[J)I"⟩ method_9_code 6 (Option.some Jvm.ClassFile.FieldType.int) [(0, 12, 15, 19)] ∈ lw_tbl := ev_mem 623 (by decide +kernel)
theorem wd_624 : Cond.methodLink "PreferTableLaw" 37 ⟨"PreferTable", "compare", "(III)I"⟩ ∈ lw_tbl := ev_mem 624 (by decide +kernel)
theorem wd_625 : Cond.instanceMethod ⟨"PreferTable", "compare", "(III)I"⟩ ∈ lw_tbl := ev_mem 625 (by decide +kernel)
theorem wd_626 : Cond.selects "PreferTable" ⟨"PreferTable", "compare", "(III)I"⟩ ⟨"PreferTable", "compare", "(III)I"⟩ ∈ lw_tbl := ev_mem 626 (by decide +kernel)
theorem wd_627 : Cond.code ⟨"PreferTable", "compare", "(III)I"⟩ prog_1_method_12_code 6 (Option.some Jvm.ClassFile.FieldType.int) ∈ lw_tbl := ev_mem 627 (by decide +kernel)
theorem wd_629 : Cond.methodLink "PreferTable" 167 ⟨"PreferTable$Node", "says", "([I[I)I"⟩ ∈ lw_tbl := ev_mem 629 (by decide +kernel)
theorem wd_630 : Cond.methodLink "PreferTableLaw" 116 ⟨"PreferTableLaw", "best", "(LPreferTable;I[J)I"⟩ ∈ lw_tbl := ev_mem 630 (by decide +kernel)
theorem wd_631 : Cond.static ⟨"PreferTableLaw", "best", "(LPreferTable;I[J)I"⟩ ∈ lw_tbl := ev_mem 631 (by decide +kernel)
theorem wd_632 : Cond.codeWith ⟨"PreferTableLaw", "best", "(LPreferTable;I[J)I"⟩ method_10_code 4 (Option.some Jvm.ClassFile.FieldType.int) [(0, 9, 12, 19)] ∈ lw_tbl := ev_mem 632 (by decide +kernel)
theorem wd_633 : Cond.methodLink "PreferTableLaw" 40 ⟨"PreferTable", "best", "(I)I"⟩ ∈ lw_tbl := ev_mem 633 (by decide +kernel)
theorem wd_634 : Cond.instanceMethod ⟨"PreferTable", "best", "(I)I"⟩ ∈ lw_tbl := ev_mem 634 (by decide +kernel)
theorem wd_635 : Cond.selects "PreferTable" ⟨"PreferTable", "best", "(I)I"⟩ ⟨"PreferTable", "best", "(I)I"⟩ ∈ lw_tbl := ev_mem 635 (by decide +kernel)
theorem wd_636 : Cond.code ⟨"PreferTable", "best", "(I)I"⟩ prog_1_method_13_code 2 (Option.some Jvm.ClassFile.FieldType.int) ∈ lw_tbl := ev_mem 636 (by decide +kernel)
theorem wd_638 : Cond.methodLink "PreferTableLaw" 120 ⟨"PreferTableLaw", "grouped", "(LPreferTable;II[J)I"⟩ ∈ lw_tbl := ev_mem 638 (by decide +kernel)
theorem wd_639 : Cond.static ⟨"PreferTableLaw", "grouped", "(LPreferTable;II[J)I"⟩ ∈ lw_tbl := ev_mem 639 (by decide +kernel)
theorem wd_640 : Cond.codeWith ⟨"PreferTableLaw", "grouped", "(LPreferTable;II[J)I"⟩ method_11_code 5 (Option.some Jvm.ClassFile.FieldType.int) [(0, 10, 13, 19)] ∈ lw_tbl := ev_mem 640 (by decide +kernel)
theorem wd_641 : Cond.methodLink "PreferTableLaw" 44 ⟨"PreferTable", "grouped", "(II)I"⟩ ∈ lw_tbl := ev_mem 641 (by decide +kernel)
theorem wd_642 : Cond.instanceMethod ⟨"PreferTable", "grouped", "(II)I"⟩ ∈ lw_tbl := ev_mem 642 (by decide +kernel)
theorem wd_643 : Cond.selects "PreferTable" ⟨"PreferTable", "grouped", "(II)I"⟩ ⟨"PreferTable", "grouped", "(II)I"⟩ ∈ lw_tbl := ev_mem 643 (by decide +kernel)
theorem wd_644 : Cond.code ⟨"PreferTable", "grouped", "(II)I"⟩ prog_1_method_14_code 3 (Option.some Jvm.ClassFile.FieldType.int) ∈ lw_tbl := ev_mem 644 (by decide +kernel)
theorem wd_646 : Cond.methodLink "PreferTable" 184 ⟨"PreferTable$Contest", "forgetOtherGroups", "(LPreferTable$Rows;I)V"⟩ ∈ lw_tbl := ev_mem 646 (by decide +kernel)
theorem wd_647 : Cond.instanceMethod ⟨"PreferTable$Contest", "forgetOtherGroups", "(LPreferTable$Rows;I)V"⟩ ∈ lw_tbl := ev_mem 647 (by decide +kernel)
theorem wd_648 : Cond.selects "PreferTable$Contest" ⟨"PreferTable$Contest", "forgetOtherGroups", "(LPreferTable$Rows;I)V"⟩ ⟨"PreferTable$Contest", "forgetOtherGroups", "(LPreferTable$Rows;I)V"⟩ ∈ lw_tbl := ev_mem 648 (by decide +kernel)
theorem wd_649 : Cond.code ⟨"PreferTable$Contest", "forgetOtherGroups", "(LPreferTable$Rows;I)V"⟩ prog_3_method_6_code 5 Option.none ∈ lw_tbl := ev_mem 649 (by decide +kernel)
theorem wd_650 : Cond.methodLink "PreferTableLaw" 123 ⟨"PreferTableLaw", "top", "(LPreferTable;II[J)I"⟩ ∈ lw_tbl := ev_mem 650 (by decide +kernel)
theorem wd_651 : Cond.static ⟨"PreferTableLaw", "top", "(LPreferTable;II[J)I"⟩ ∈ lw_tbl := ev_mem 651 (by decide +kernel)
theorem wd_652 : Cond.codeWith ⟨"PreferTableLaw", "top", "(LPreferTable;II[J)I"⟩ method_12_code 5 (Option.some Jvm.ClassFile.FieldType.int) [(0, 10, 13, 19), (0, 10, 17, 24)] ∈ lw_tbl := ev_mem 652 (by decide +kernel)
theorem wd_653 : Cond.methodLink "PreferTableLaw" 47 ⟨"PreferTable", "top", "(II)I"⟩ ∈ lw_tbl := ev_mem 653 (by decide +kernel)
theorem wd_654 : Cond.instanceMethod ⟨"PreferTable", "top", "(II)I"⟩ ∈ lw_tbl := ev_mem 654 (by decide +kernel)
theorem wd_655 : Cond.selects "PreferTable" ⟨"PreferTable", "top", "(II)I"⟩ ⟨"PreferTable", "top", "(II)I"⟩ ∈ lw_tbl := ev_mem 655 (by decide +kernel)
theorem wd_656 : Cond.code ⟨"PreferTable", "top", "(II)I"⟩ prog_1_method_15_code 3 (Option.some Jvm.ClassFile.FieldType.int) ∈ lw_tbl := ev_mem 656 (by decide +kernel)
theorem wd_658 : Cond.methodLink "PreferTable" 190 ⟨"PreferTable$Contest", "rank", "()V"⟩ ∈ lw_tbl := ev_mem 658 (by decide +kernel)
theorem wd_659 : Cond.instanceMethod ⟨"PreferTable$Contest", "rank", "()V"⟩ ∈ lw_tbl := ev_mem 659 (by decide +kernel)
theorem wd_660 : Cond.selects "PreferTable$Contest" ⟨"PreferTable$Contest", "rank", "()V"⟩ ⟨"PreferTable$Contest", "rank", "()V"⟩ ∈ lw_tbl := ev_mem 660 (by decide +kernel)
theorem wd_661 : Cond.code ⟨"PreferTable$Contest", "rank", "()V"⟩ prog_3_method_8_code 4 Option.none ∈ lw_tbl := ev_mem 661 (by decide +kernel)
theorem wd_662 : Cond.methodLink "PreferTable$Contest" 67 ⟨"PreferTable$Contest", "setLevel", "(II)V"⟩ ∈ lw_tbl := ev_mem 662 (by decide +kernel)
theorem wd_664 : Cond.instanceMethod ⟨"PreferTable$Contest", "setLevel", "(II)V"⟩ ∈ lw_tbl := ev_mem 664 (by decide +kernel)
theorem wd_665 : Cond.code ⟨"PreferTable$Contest", "setLevel", "(II)V"⟩ prog_3_method_10_code 4 Option.none ∈ lw_tbl := ev_mem 665 (by decide +kernel)
theorem wd_666 : Cond.methodLink "PreferTable$Contest" 71 ⟨"PreferTable$Contest", "unbeatenAmong", "(I)I"⟩ ∈ lw_tbl := ev_mem 666 (by decide +kernel)
theorem wd_668 : Cond.instanceMethod ⟨"PreferTable$Contest", "unbeatenAmong", "(I)I"⟩ ∈ lw_tbl := ev_mem 668 (by decide +kernel)
theorem wd_669 : Cond.code ⟨"PreferTable$Contest", "unbeatenAmong", "(I)I"⟩ prog_3_method_9_code 4 (Option.some Jvm.ClassFile.FieldType.int) ∈ lw_tbl := ev_mem 669 (by decide +kernel)
theorem wd_670 : Cond.methodLink "PreferTable" 193 ⟨"PreferTable$Contest", "listFirst", "(LPreferTable$Rows;ILPreferTable$RowList;)V"⟩ ∈ lw_tbl := ev_mem 670 (by decide +kernel)
theorem wd_671 : Cond.instanceMethod ⟨"PreferTable$Contest", "listFirst", "(LPreferTable$Rows;ILPreferTable$RowList;)V"⟩ ∈ lw_tbl := ev_mem 671 (by decide +kernel)
theorem wd_672 : Cond.selects "PreferTable$Contest" ⟨"PreferTable$Contest", "listFirst", "(LPreferTable$Rows;ILPreferTable$RowList;)V"⟩ ⟨"PreferTable$Contest", "listFirst", "(LPreferTable$Rows;ILPreferTable$RowList;)V"⟩ ∈ lw_tbl := ev_mem 672 (by decide +kernel)
theorem wd_673 : Cond.code ⟨"PreferTable$Contest", "listFirst", "(LPreferTable$Rows;ILPreferTable$RowList;)V"⟩ prog_3_method_11_code 6 Option.none ∈ lw_tbl := ev_mem 673 (by decide +kernel)
theorem wd_674 : Cond.methodLink "PreferTableLaw" 126 ⟨"PreferTableLaw", "level", "(LPreferTable;II[J)I"⟩ ∈ lw_tbl := ev_mem 674 (by decide +kernel)
theorem wd_675 : Cond.static ⟨"PreferTableLaw", "level", "(LPreferTable;II[J)I"⟩ ∈ lw_tbl := ev_mem 675 (by decide +kernel)
theorem wd_676 : Cond.codeWith ⟨"PreferTableLaw", "level", "(LPreferTable;II[J)I"⟩ method_13_code 5 (Option.some Jvm.ClassFile.FieldType.int) [(0, 10, 13, 19)] ∈ lw_tbl := ev_mem 676 (by decide +kernel)
theorem wd_677 : Cond.methodLink "PreferTableLaw" 50 ⟨"PreferTable", "level", "(II)I"⟩ ∈ lw_tbl := ev_mem 677 (by decide +kernel)
theorem wd_678 : Cond.instanceMethod ⟨"PreferTable", "level", "(II)I"⟩ ∈ lw_tbl := ev_mem 678 (by decide +kernel)
theorem wd_679 : Cond.selects "PreferTable" ⟨"PreferTable", "level", "(II)I"⟩ ⟨"PreferTable", "level", "(II)I"⟩ ∈ lw_tbl := ev_mem 679 (by decide +kernel)
theorem wd_680 : Cond.code ⟨"PreferTable", "level", "(II)I"⟩ prog_1_method_16_code 4 (Option.some Jvm.ClassFile.FieldType.int) ∈ lw_tbl := ev_mem 680 (by decide +kernel)
theorem wd_681 : Cond.methodLink "PreferTableLaw" 133 ⟨"PreferTableLaw", "reason", "(LPreferTable;IIII[J)I"⟩ ∈ lw_tbl := ev_mem 681 (by decide +kernel)
theorem wd_682 : Cond.static ⟨"PreferTableLaw", "reason", "(LPreferTable;IIII[J)I"⟩ ∈ lw_tbl := ev_mem 682 (by decide +kernel)
theorem wd_683 : Cond.codeWith ⟨"PreferTableLaw", "reason", "(LPreferTable;IIII[J)I"⟩ method_14_code 7 (Option.some Jvm.ClassFile.FieldType.int) [(0, 14, 17, 19)] ∈ lw_tbl := ev_mem 683 (by decide +kernel)
theorem wd_684 : Cond.methodLink "PreferTableLaw" 53 ⟨"PreferTable", "reason", "(IIII)I"⟩ ∈ lw_tbl := ev_mem 684 (by decide +kernel)
theorem wd_685 : Cond.instanceMethod ⟨"PreferTable", "reason", "(IIII)I"⟩ ∈ lw_tbl := ev_mem 685 (by decide +kernel)
theorem wd_686 : Cond.selects "PreferTable" ⟨"PreferTable", "reason", "(IIII)I"⟩ ⟨"PreferTable", "reason", "(IIII)I"⟩ ∈ lw_tbl := ev_mem 686 (by decide +kernel)
theorem wd_687 : Cond.code ⟨"PreferTable", "reason", "(IIII)I"⟩ prog_1_method_18_code 7 (Option.some Jvm.ClassFile.FieldType.int) ∈ lw_tbl := ev_mem 687 (by decide +kernel)
theorem wd_688 : Cond.methodLink "PreferTable" 204 ⟨"PreferTable", "walkToDecider", "(LPreferTable$Node;[I[II)I"⟩ ∈ lw_tbl := ev_mem 688 (by decide +kernel)
theorem wd_689 : Cond.static ⟨"PreferTable", "walkToDecider", "(LPreferTable$Node;[I[II)I"⟩ ∈ lw_tbl := ev_mem 689 (by decide +kernel)
theorem wd_690 : Cond.code ⟨"PreferTable", "walkToDecider", "(LPreferTable$Node;[I[II)I"⟩ prog_1_method_32_code 10 (Option.some Jvm.ClassFile.FieldType.int) ∈ lw_tbl := ev_mem 690 (by decide +kernel)
theorem wd_691 : Cond.methodLink "PreferTable" 267 ⟨"PreferTable$Term", "partThatDecides", "([I[I)LPreferTable$Node;"⟩ ∈ lw_tbl := ev_mem 691 (by decide +kernel)
theorem wd_692 : Cond.instanceMethod ⟨"PreferTable$Term", "partThatDecides", "([I[I)LPreferTable$Node;"⟩ ∈ lw_tbl := ev_mem 692 (by decide +kernel)
theorem wd_693 : Cond.selects "PreferTable$Term" ⟨"PreferTable$Term", "partThatDecides", "([I[I)LPreferTable$Node;"⟩ ⟨"PreferTable$Term", "partThatDecides", "([I[I)LPreferTable$Node;"⟩ ∈ lw_tbl := ev_mem 693 (by decide +kernel)
theorem wd_694 : Cond.code ⟨"PreferTable$Term", "partThatDecides", "([I[I)LPreferTable$Node;"⟩ prog_11_method_6_code 3 (Option.some (Jvm.ClassFile.FieldType.object "PreferTable$Node")) ∈ lw_tbl := ev_mem 694 (by decide +kernel)
theorem wd_695 : Cond.methodLink "PreferTableLaw" 136 ⟨"PreferTableLaw", "save", "(LPreferTable;II[J)I"⟩ ∈ lw_tbl := ev_mem 695 (by decide +kernel)
theorem wd_696 : Cond.static ⟨"PreferTableLaw", "save", "(LPreferTable;II[J)I"⟩ ∈ lw_tbl := ev_mem 696 (by decide +kernel)
theorem wd_697 : Cond.codeWith ⟨"PreferTableLaw", "save", "(LPreferTable;II[J)I"⟩ method_15_code 5 (Option.some Jvm.ClassFile.FieldType.int) [(0, 10, 13, 19)] ∈ lw_tbl := ev_mem 697 (by decide +kernel)
theorem wd_698 : Cond.methodLink "PreferTableLaw" 56 ⟨"PreferTable", "save", "(II)I"⟩ ∈ lw_tbl := ev_mem 698 (by decide +kernel)
theorem wd_699 : Cond.instanceMethod ⟨"PreferTable", "save", "(II)I"⟩ ∈ lw_tbl := ev_mem 699 (by decide +kernel)
theorem wd_700 : Cond.selects "PreferTable" ⟨"PreferTable", "save", "(II)I"⟩ ⟨"PreferTable", "save", "(II)I"⟩ ∈ lw_tbl := ev_mem 700 (by decide +kernel)
theorem wd_701 : Cond.code ⟨"PreferTable", "save", "(II)I"⟩ prog_1_method_19_code 4 (Option.some Jvm.ClassFile.FieldType.int) ∈ lw_tbl := ev_mem 701 (by decide +kernel)
theorem wd_703 : Cond.methodLink "PreferTable" 213 ⟨"PreferTable$Question", "ask", "(LPreferTable$Node;LPreferTable$Conditions;)V"⟩ ∈ lw_tbl := ev_mem 703 (by decide +kernel)
theorem wd_704 : Cond.instanceMethod ⟨"PreferTable$Question", "ask", "(LPreferTable$Node;LPreferTable$Conditions;)V"⟩ ∈ lw_tbl := ev_mem 704 (by decide +kernel)
theorem wd_705 : Cond.selects "PreferTable$Question" ⟨"PreferTable$Question", "ask", "(LPreferTable$Node;LPreferTable$Conditions;)V"⟩ ⟨"PreferTable$Question", "ask", "(LPreferTable$Node;LPreferTable$Conditions;)V"⟩ ∈ lw_tbl := ev_mem 705 (by decide +kernel)
theorem wd_706 : Cond.code ⟨"PreferTable$Question", "ask", "(LPreferTable$Node;LPreferTable$Conditions;)V"⟩ prog_8_method_2_code 3 Option.none ∈ lw_tbl := ev_mem 706 (by decide +kernel)
theorem wd_707 : Cond.methodLink "PreferTable$Question" 36 ⟨"PreferTable$Conditions", "copyFrom", "(LPreferTable$Conditions;)V"⟩ ∈ lw_tbl := ev_mem 707 (by decide +kernel)
theorem wd_708 : Cond.instanceMethod ⟨"PreferTable$Conditions", "copyFrom", "(LPreferTable$Conditions;)V"⟩ ∈ lw_tbl := ev_mem 708 (by decide +kernel)
theorem wd_709 : Cond.selects "PreferTable$Conditions" ⟨"PreferTable$Conditions", "copyFrom", "(LPreferTable$Conditions;)V"⟩ ⟨"PreferTable$Conditions", "copyFrom", "(LPreferTable$Conditions;)V"⟩ ∈ lw_tbl := ev_mem 709 (by decide +kernel)
theorem wd_710 : Cond.code ⟨"PreferTable$Conditions", "copyFrom", "(LPreferTable$Conditions;)V"⟩ prog_2_method_4_code 3 Option.none ∈ lw_tbl := ev_mem 710 (by decide +kernel)
theorem wd_711 : Cond.methodLink "PreferTable$Conditions" 25 ⟨"PreferTable$Conditions", "clear", "()V"⟩ ∈ lw_tbl := ev_mem 711 (by decide +kernel)
theorem wd_712 : Cond.methodLink "PreferTable$Conditions" 28 ⟨"PreferTable$Conditions", "add", "(III)V"⟩ ∈ lw_tbl := ev_mem 712 (by decide +kernel)
theorem wd_713 : Cond.methodLink "PreferTableLaw" 147 ⟨"PreferTableLaw", "reduce", "(LPreferTable;I[J)I"⟩ ∈ lw_tbl := ev_mem 713 (by decide +kernel)
theorem wd_714 : Cond.static ⟨"PreferTableLaw", "reduce", "(LPreferTable;I[J)I"⟩ ∈ lw_tbl := ev_mem 714 (by decide +kernel)
theorem wd_715 : Cond.codeWith ⟨"PreferTableLaw", "reduce", "(LPreferTable;I[J)I"⟩ method_16_code 4 (Option.some Jvm.ClassFile.FieldType.int) [(0, 9, 12, 19)] ∈ lw_tbl := ev_mem 715 (by decide +kernel)
theorem wd_716 : Cond.methodLink "PreferTableLaw" 59 ⟨"PreferTable", "reduce", "(I)I"⟩ ∈ lw_tbl := ev_mem 716 (by decide +kernel)
theorem wd_717 : Cond.instanceMethod ⟨"PreferTable", "reduce", "(I)I"⟩ ∈ lw_tbl := ev_mem 717 (by decide +kernel)
theorem wd_718 : Cond.selects "PreferTable" ⟨"PreferTable", "reduce", "(I)I"⟩ ⟨"PreferTable", "reduce", "(I)I"⟩ ∈ lw_tbl := ev_mem 718 (by decide +kernel)
theorem wd_719 : Cond.code ⟨"PreferTable", "reduce", "(I)I"⟩ prog_1_method_22_code 2 (Option.some Jvm.ClassFile.FieldType.int) ∈ lw_tbl := ev_mem 719 (by decide +kernel)
theorem wd_720 : Cond.methodLink "PreferTable" 233 ⟨"PreferTable$Node", "putReduced", "([II)I"⟩ ∈ lw_tbl := ev_mem 720 (by decide +kernel)
theorem wd_721 : Cond.declares ⟨"PreferTable$Node", "putReduced", "([II)I"⟩ ∈ lw_tbl := ev_mem 721 (by decide +kernel)
theorem wd_722 : Cond.sameMethod "PreferTable$Node" "PreferTable$Node" "putReduced" "([II)I" ∈ lw_tbl := ev_mem 722 (by decide +kernel)
theorem wd_723 : Cond.selects "PreferTable$Graph" ⟨"PreferTable$Node", "putReduced", "([II)I"⟩ ⟨"PreferTable$Order", "putReduced", "([II)I"⟩ ∈ lw_tbl := ev_mem 723 (by decide +kernel)
theorem wd_724 : Cond.instanceMethod ⟨"PreferTable$Order", "putReduced", "([II)I"⟩ ∈ lw_tbl := ev_mem 724 (by decide +kernel)
theorem wd_725 : Cond.code ⟨"PreferTable$Order", "putReduced", "([II)I"⟩ prog_7_method_4_code 3 (Option.some Jvm.ClassFile.FieldType.int) ∈ lw_tbl := ev_mem 725 (by decide +kernel)
theorem wd_726 : Cond.methodLink "PreferTable$Order" 22 ⟨"PreferTable$Order", "putOwn", "([II)I"⟩ ∈ lw_tbl := ev_mem 726 (by decide +kernel)
theorem wd_727 : Cond.instanceMethod ⟨"PreferTable$Order", "putOwn", "([II)I"⟩ ∈ lw_tbl := ev_mem 727 (by decide +kernel)
theorem wd_728 : Cond.sameMethod "PreferTable$Order" "PreferTable$Order" "putOwn" "([II)I" ∈ lw_tbl := ev_mem 728 (by decide +kernel)
theorem wd_729 : Cond.selects "PreferTable$Graph" ⟨"PreferTable$Order", "putOwn", "([II)I"⟩ ⟨"PreferTable$Order", "putOwn", "([II)I"⟩ ∈ lw_tbl := ev_mem 729 (by decide +kernel)
theorem wd_730 : Cond.selects "PreferTable$Layers" ⟨"PreferTable$Order", "putOwn", "([II)I"⟩ ⟨"PreferTable$Order", "putOwn", "([II)I"⟩ ∈ lw_tbl := ev_mem 730 (by decide +kernel)
theorem wd_731 : Cond.selects "PreferTable$ValueOrder" ⟨"PreferTable$Order", "putOwn", "([II)I"⟩ ⟨"PreferTable$ValueOrder", "putOwn", "([II)I"⟩ ∈ lw_tbl := ev_mem 731 (by decide +kernel)
theorem wd_732 : Cond.instanceMethod ⟨"PreferTable$ValueOrder", "putOwn", "([II)I"⟩ ∈ lw_tbl := ev_mem 732 (by decide +kernel)
theorem wd_733 : Cond.code ⟨"PreferTable$ValueOrder", "putOwn", "([II)I"⟩ prog_12_method_4_code 3 (Option.some Jvm.ClassFile.FieldType.int) ∈ lw_tbl := ev_mem 733 (by decide +kernel)
theorem wd_734 : Cond.code ⟨"PreferTable$Order", "putOwn", "([II)I"⟩ prog_7_method_5_code 3 (Option.some Jvm.ClassFile.FieldType.int) ∈ lw_tbl := ev_mem 734 (by decide +kernel)
theorem wd_735 : Cond.selects "PreferTable$Layers" ⟨"PreferTable$Node", "putReduced", "([II)I"⟩ ⟨"PreferTable$Order", "putReduced", "([II)I"⟩ ∈ lw_tbl := ev_mem 735 (by decide +kernel)
theorem wd_736 : Cond.selects "PreferTable$Term" ⟨"PreferTable$Node", "putReduced", "([II)I"⟩ ⟨"PreferTable$Term", "putReduced", "([II)I"⟩ ∈ lw_tbl := ev_mem 736 (by decide +kernel)
theorem wd_737 : Cond.instanceMethod ⟨"PreferTable$Term", "putReduced", "([II)I"⟩ ∈ lw_tbl := ev_mem 737 (by decide +kernel)
theorem wd_738 : Cond.code ⟨"PreferTable$Term", "putReduced", "([II)I"⟩ prog_11_method_7_code 5 (Option.some Jvm.ClassFile.FieldType.int) ∈ lw_tbl := ev_mem 738 (by decide +kernel)
theorem wd_739 : Cond.methodLink "PreferTable$Term" 44 ⟨"PreferTable$Node", "putReduced", "([II)I"⟩ ∈ lw_tbl := ev_mem 739 (by decide +kernel)
theorem wd_740 : Cond.methodLink "PreferTable$Term" 48 ⟨"PreferTable$Term", "reduceDual", "([III)I"⟩ ∈ lw_tbl := ev_mem 740 (by decide +kernel)
theorem wd_741 : Cond.static ⟨"PreferTable$Term", "reduceDual", "([III)I"⟩ ∈ lw_tbl := ev_mem 741 (by decide +kernel)
theorem wd_742 : Cond.code ⟨"PreferTable$Term", "reduceDual", "([III)I"⟩ prog_11_method_8_code 4 (Option.some Jvm.ClassFile.FieldType.int) ∈ lw_tbl := ev_mem 742 (by decide +kernel)
theorem wd_743 : Cond.methodLink "PreferTable$Term" 60 ⟨"PreferTable$Term", "moveBack", "([IIII)I"⟩ ∈ lw_tbl := ev_mem 743 (by decide +kernel)
theorem wd_744 : Cond.static ⟨"PreferTable$Term", "moveBack", "([IIII)I"⟩ ∈ lw_tbl := ev_mem 744 (by decide +kernel)
theorem wd_745 : Cond.code ⟨"PreferTable$Term", "moveBack", "([IIII)I"⟩ prog_11_method_12_code 4 (Option.some Jvm.ClassFile.FieldType.int) ∈ lw_tbl := ev_mem 745 (by decide +kernel)
theorem wd_746 : Cond.methodLink "PreferTable$Term" 67 ⟨"java/lang/System", "arraycopy", "(Ljava/lang/Object;ILjava/lang/Object;II)V"⟩ ∈ lw_tbl := ev_mem 746 (by decide +kernel)
theorem wd_747 : Cond.methodLink "PreferTable$Term" 52 ⟨"PreferTable$Term", "areAlike", "([IIII)Z"⟩ ∈ lw_tbl := ev_mem 747 (by decide +kernel)
theorem wd_748 : Cond.static ⟨"PreferTable$Term", "areAlike", "([IIII)Z"⟩ ∈ lw_tbl := ev_mem 748 (by decide +kernel)
theorem wd_749 : Cond.code ⟨"PreferTable$Term", "areAlike", "([IIII)Z"⟩ prog_11_method_9_code 6 (Option.some Jvm.ClassFile.FieldType.boolean) ∈ lw_tbl := ev_mem 749 (by decide +kernel)
theorem wd_750 : Cond.methodLink "PreferTable$Term" 56 ⟨"PreferTable$Term", "pDecidesAlone", "()Z"⟩ ∈ lw_tbl := ev_mem 750 (by decide +kernel)
theorem wd_752 : Cond.instanceMethod ⟨"PreferTable$Term", "pDecidesAlone", "()Z"⟩ ∈ lw_tbl := ev_mem 752 (by decide +kernel)
theorem wd_753 : Cond.code ⟨"PreferTable$Term", "pDecidesAlone", "()Z"⟩ prog_11_method_10_code 1 (Option.some Jvm.ClassFile.FieldType.boolean) ∈ lw_tbl := ev_mem 753 (by decide +kernel)
theorem wd_754 : Cond.methodLink "PreferTable$Term" 64 ⟨"PreferTable$Term", "pullDualOut", "([IIII)I"⟩ ∈ lw_tbl := ev_mem 754 (by decide +kernel)
theorem wd_755 : Cond.static ⟨"PreferTable$Term", "pullDualOut", "([IIII)I"⟩ ∈ lw_tbl := ev_mem 755 (by decide +kernel)
theorem wd_756 : Cond.code ⟨"PreferTable$Term", "pullDualOut", "([IIII)I"⟩ prog_11_method_11_code 4 (Option.some Jvm.ClassFile.FieldType.int) ∈ lw_tbl := ev_mem 756 (by decide +kernel)
theorem wd_757 : Cond.selects "PreferTable$ValueOrder" ⟨"PreferTable$Node", "putReduced", "([II)I"⟩ ⟨"PreferTable$Order", "putReduced", "([II)I"⟩ ∈ lw_tbl := ev_mem 757 (by decide +kernel)
theorem wd_758 : Cond.methodLink "PreferTableLaw" 150 ⟨"PreferTableLaw", "form", "(LPreferTable;I[J)I"⟩ ∈ lw_tbl := ev_mem 758 (by decide +kernel)
theorem wd_759 : Cond.static ⟨"PreferTableLaw", "form", "(LPreferTable;I[J)I"⟩ ∈ lw_tbl := ev_mem 759 (by decide +kernel)
theorem wd_760 : Cond.codeWith ⟨"PreferTableLaw", "form", "(LPreferTable;I[J)I"⟩ method_17_code 4 (Option.some Jvm.ClassFile.FieldType.int) [(0, 9, 12, 19)] ∈ lw_tbl := ev_mem 760 (by decide +kernel)
theorem wd_761 : Cond.methodLink "PreferTableLaw" 62 ⟨"PreferTable", "form", "(I)I"⟩ ∈ lw_tbl := ev_mem 761 (by decide +kernel)
theorem wd_762 : Cond.instanceMethod ⟨"PreferTable", "form", "(I)I"⟩ ∈ lw_tbl := ev_mem 762 (by decide +kernel)
theorem wd_763 : Cond.selects "PreferTable" ⟨"PreferTable", "form", "(I)I"⟩ ⟨"PreferTable", "form", "(I)I"⟩ ∈ lw_tbl := ev_mem 763 (by decide +kernel)
theorem wd_764 : Cond.code ⟨"PreferTable", "form", "(I)I"⟩ prog_1_method_23_code 2 (Option.some Jvm.ClassFile.FieldType.int) ∈ lw_tbl := ev_mem 764 (by decide +kernel)
theorem wd_766 : Cond.classLink "PreferTableLaw" 66 "PreferTableModel" ∈ lw_tbl := ev_mem 766 (by decide +kernel)
theorem wd_767 : Cond.instantiable "PreferTableModel" 34 ∈ lw_tbl := ev_mem 767 (by decide +kernel)
theorem wd_768 : Cond.methodLink "PreferTableLaw" 68 ⟨"PreferTableModel", "<init>", "()V"⟩ ∈ lw_tbl := ev_mem 768 (by decide +kernel)
theorem wd_769 : Cond.instanceMethod ⟨"PreferTableModel", "<init>", "()V"⟩ ∈ lw_tbl := ev_mem 769 (by decide +kernel)
theorem wd_770 : Cond.code ⟨"PreferTableModel", "<init>", "()V"⟩ prog_14_method_1_code 1 Option.none ∈ lw_tbl := ev_mem 770 (by decide +kernel)
theorem wd_771 : Cond.methodLink "PreferTableModel" 1 ⟨"java/lang/Object", "<init>", "()V"⟩ ∈ lw_tbl := ev_mem 771 (by decide +kernel)
theorem wd_772 : Cond.fieldLink "PreferTableModel" 95 "PreferTableModel" "thrown" "I" ∈ lw_tbl := ev_mem 772 (by decide +kernel)
theorem wd_773 : Cond.fieldLink "PreferTableModel" 99 "PreferTableModel" "rows" "I" ∈ lw_tbl := ev_mem 773 (by decide +kernel)
theorem wd_774 : Cond.fieldLink "PreferTableModel" 7 "PreferTableModel" "there" "[Z" ∈ lw_tbl := ev_mem 774 (by decide +kernel)
theorem wd_775 : Cond.fieldLink "PreferTableModel" 13 "PreferTableModel" "value" "[I" ∈ lw_tbl := ev_mem 775 (by decide +kernel)
theorem wd_776 : Cond.fieldLink "PreferTableModel" 102 "PreferTableModel" "nodes" "I" ∈ lw_tbl := ev_mem 776 (by decide +kernel)
theorem wd_777 : Cond.fieldLink "PreferTableModel" 17 "PreferTableModel" "kind" "[I" ∈ lw_tbl := ev_mem 777 (by decide +kernel)
theorem wd_778 : Cond.fieldLink "PreferTableModel" 20 "PreferTableModel" "column" "[I" ∈ lw_tbl := ev_mem 778 (by decide +kernel)
theorem wd_779 : Cond.fieldLink "PreferTableModel" 23 "PreferTableModel" "left" "[I" ∈ lw_tbl := ev_mem 779 (by decide +kernel)
theorem wd_780 : Cond.fieldLink "PreferTableModel" 26 "PreferTableModel" "right" "[I" ∈ lw_tbl := ev_mem 780 (by decide +kernel)
theorem wd_781 : Cond.fieldLink "PreferTableModel" 29 "PreferTableModel" "size" "[I" ∈ lw_tbl := ev_mem 781 (by decide +kernel)
theorem wd_782 : Cond.fieldLink "PreferTableModel" 32 "PreferTableModel" "layer" "[I" ∈ lw_tbl := ev_mem 782 (by decide +kernel)
theorem wd_783 : Cond.fieldLink "PreferTableModel" 35 "PreferTableModel" "edges" "[I" ∈ lw_tbl := ev_mem 783 (by decide +kernel)
theorem wd_784 : Cond.fieldLink "PreferTableModel" 38 "PreferTableModel" "says" "[I" ∈ lw_tbl := ev_mem 784 (by decide +kernel)
theorem wd_785 : Cond.fieldLink "PreferTableModel" 41 "PreferTableModel" "conditions" "[I" ∈ lw_tbl := ev_mem 785 (by decide +kernel)
theorem wd_786 : Cond.fieldLink "PreferTableModel" 44 "PreferTableModel" "on" "[I" ∈ lw_tbl := ev_mem 786 (by decide +kernel)
theorem wd_787 : Cond.fieldLink "PreferTableModel" 47 "PreferTableModel" "operation" "[I" ∈ lw_tbl := ev_mem 787 (by decide +kernel)
theorem wd_788 : Cond.fieldLink "PreferTableModel" 50 "PreferTableModel" "than" "[I" ∈ lw_tbl := ev_mem 788 (by decide +kernel)
theorem wd_789 : Cond.fieldLink "PreferTableModel" 53 "PreferTableModel" "isSaved" "[Z" ∈ lw_tbl := ev_mem 789 (by decide +kernel)
theorem wd_790 : Cond.fieldLink "PreferTableModel" 56 "PreferTableModel" "question" "[I" ∈ lw_tbl := ev_mem 790 (by decide +kernel)
theorem wd_791 : Cond.fieldLink "PreferTableModel" 59 "PreferTableModel" "seen" "[Z" ∈ lw_tbl := ev_mem 791 (by decide +kernel)
theorem wd_792 : Cond.fieldLink "PreferTableModel" 62 "PreferTableModel" "best" "[Z" ∈ lw_tbl := ev_mem 792 (by decide +kernel)
theorem wd_793 : Cond.fieldLink "PreferTableModel" 65 "PreferTableModel" "level" "[I" ∈ lw_tbl := ev_mem 793 (by decide +kernel)
theorem wd_794 : Cond.fieldLink "PreferTableModel" 163 "PreferTableModel" "answers" "I" ∈ lw_tbl := ev_mem 794 (by decide +kernel)
theorem wd_795 : Cond.fieldLink "PreferTableModel" 68 "PreferTableModel" "answer" "[I" ∈ lw_tbl := ev_mem 795 (by decide +kernel)
theorem wd_796 : Cond.fieldLink "PreferTableModel" 180 "PreferTableModel" "made" "I" ∈ lw_tbl := ev_mem 796 (by decide +kernel)
theorem wd_797 : Cond.fieldLink "PreferTableModel" 71 "PreferTableModel" "madeKind" "[I" ∈ lw_tbl := ev_mem 797 (by decide +kernel)
theorem wd_798 : Cond.fieldLink "PreferTableModel" 74 "PreferTableModel" "madeColumn" "[I" ∈ lw_tbl := ev_mem 798 (by decide +kernel)
theorem wd_799 : Cond.fieldLink "PreferTableModel" 77 "PreferTableModel" "madeA" "[I" ∈ lw_tbl := ev_mem 799 (by decide +kernel)
theorem wd_800 : Cond.fieldLink "PreferTableModel" 80 "PreferTableModel" "madeB" "[I" ∈ lw_tbl := ev_mem 800 (by decide +kernel)
theorem wd_801 : Cond.fieldLink "PreferTableModel" 83 "PreferTableModel" "madeOf" "[I" ∈ lw_tbl := ev_mem 801 (by decide +kernel)
theorem wd_802 : Cond.fieldLink "PreferTableModel" 86 "PreferTableModel" "become" "[I" ∈ lw_tbl := ev_mem 802 (by decide +kernel)
theorem wd_803 : Cond.fieldLink "PreferTableModel" 190 "PreferTableModel" "forms" "I" ∈ lw_tbl := ev_mem 803 (by decide +kernel)
theorem wd_804 : Cond.fieldLink "PreferTableModel" 89 "PreferTableModel" "form" "[I" ∈ lw_tbl := ev_mem 804 (by decide +kernel)
theorem wd_805 : Cond.fieldLink "PreferTableModel" 92 "PreferTableModel" "wait" "[I" ∈ lw_tbl := ev_mem 805 (by decide +kernel)
theorem wd_876 : Cond.methodLink "PreferTableLaw" 75 ⟨"PreferTableModel", "thrown", "()I"⟩ ∈ lw_tbl := ev_mem 876 (by decide +kernel)
theorem wd_877 : Cond.instanceMethod ⟨"PreferTableModel", "thrown", "()I"⟩ ∈ lw_tbl := ev_mem 877 (by decide +kernel)
theorem wd_878 : Cond.selects "PreferTableModel" ⟨"PreferTableModel", "thrown", "()I"⟩ ⟨"PreferTableModel", "thrown", "()I"⟩ ∈ lw_tbl := ev_mem 878 (by decide +kernel)
theorem wd_879 : Cond.code ⟨"PreferTableModel", "thrown", "()I"⟩ prog_14_method_2_code 1 (Option.some Jvm.ClassFile.FieldType.int) ∈ lw_tbl := ev_mem 879 (by decide +kernel)
theorem wd_880 : Cond.methodLink "PreferTableLaw" 74 ⟨"PreferTableModel", "row", "(IIII)I"⟩ ∈ lw_tbl := ev_mem 880 (by decide +kernel)
theorem wd_881 : Cond.instanceMethod ⟨"PreferTableModel", "row", "(IIII)I"⟩ ∈ lw_tbl := ev_mem 881 (by decide +kernel)
theorem wd_882 : Cond.selects "PreferTableModel" ⟨"PreferTableModel", "row", "(IIII)I"⟩ ⟨"PreferTableModel", "row", "(IIII)I"⟩ ∈ lw_tbl := ev_mem 882 (by decide +kernel)
theorem wd_883 : Cond.code ⟨"PreferTableModel", "row", "(IIII)I"⟩ prog_14_method_7_code 5 (Option.some Jvm.ClassFile.FieldType.int) ∈ lw_tbl := ev_mem 883 (by decide +kernel)
theorem wd_884 : Cond.methodLink "PreferTableModel" 105 ⟨"PreferTableModel", "present", "()I"⟩ ∈ lw_tbl := ev_mem 884 (by decide +kernel)
theorem wd_886 : Cond.instanceMethod ⟨"PreferTableModel", "present", "()I"⟩ ∈ lw_tbl := ev_mem 886 (by decide +kernel)
theorem wd_887 : Cond.code ⟨"PreferTableModel", "present", "()I"⟩ prog_14_method_6_code 3 (Option.some Jvm.ClassFile.FieldType.int) ∈ lw_tbl := ev_mem 887 (by decide +kernel)
theorem wd_888 : Cond.methodLink "PreferTableLaw" 82 ⟨"PreferTableModel", "change", "(III)Z"⟩ ∈ lw_tbl := ev_mem 888 (by decide +kernel)
theorem wd_889 : Cond.instanceMethod ⟨"PreferTableModel", "change", "(III)Z"⟩ ∈ lw_tbl := ev_mem 889 (by decide +kernel)
theorem wd_890 : Cond.selects "PreferTableModel" ⟨"PreferTableModel", "change", "(III)Z"⟩ ⟨"PreferTableModel", "change", "(III)Z"⟩ ∈ lw_tbl := ev_mem 890 (by decide +kernel)
theorem wd_891 : Cond.code ⟨"PreferTableModel", "change", "(III)Z"⟩ prog_14_method_8_code 4 (Option.some Jvm.ClassFile.FieldType.boolean) ∈ lw_tbl := ev_mem 891 (by decide +kernel)
theorem wd_892 : Cond.methodLink "PreferTableModel" 109 ⟨"PreferTableModel", "isRow", "(I)Z"⟩ ∈ lw_tbl := ev_mem 892 (by decide +kernel)
theorem wd_894 : Cond.instanceMethod ⟨"PreferTableModel", "isRow", "(I)Z"⟩ ∈ lw_tbl := ev_mem 894 (by decide +kernel)
theorem wd_895 : Cond.code ⟨"PreferTableModel", "isRow", "(I)Z"⟩ prog_14_method_3_code 2 (Option.some Jvm.ClassFile.FieldType.boolean) ∈ lw_tbl := ev_mem 895 (by decide +kernel)
theorem wd_896 : Cond.methodLink "PreferTableModel" 113 ⟨"PreferTableModel", "isColumn", "(I)Z"⟩ ∈ lw_tbl := ev_mem 896 (by decide +kernel)
theorem wd_897 : Cond.static ⟨"PreferTableModel", "isColumn", "(I)Z"⟩ ∈ lw_tbl := ev_mem 897 (by decide +kernel)
theorem wd_898 : Cond.code ⟨"PreferTableModel", "isColumn", "(I)Z"⟩ prog_14_method_4_code 1 (Option.some Jvm.ClassFile.FieldType.boolean) ∈ lw_tbl := ev_mem 898 (by decide +kernel)
theorem wd_899 : Cond.methodLink "PreferTableLaw" 87 ⟨"PreferTableModel", "remove", "(I)Z"⟩ ∈ lw_tbl := ev_mem 899 (by decide +kernel)
theorem wd_900 : Cond.instanceMethod ⟨"PreferTableModel", "remove", "(I)Z"⟩ ∈ lw_tbl := ev_mem 900 (by decide +kernel)
theorem wd_901 : Cond.selects "PreferTableModel" ⟨"PreferTableModel", "remove", "(I)Z"⟩ ⟨"PreferTableModel", "remove", "(I)Z"⟩ ∈ lw_tbl := ev_mem 901 (by decide +kernel)
theorem wd_902 : Cond.code ⟨"PreferTableModel", "remove", "(I)Z"⟩ prog_14_method_9_code 2 (Option.some Jvm.ClassFile.FieldType.boolean) ∈ lw_tbl := ev_mem 902 (by decide +kernel)
theorem wd_903 : Cond.methodLink "PreferTableLaw" 91 ⟨"PreferTableModel", "value", "(II)I"⟩ ∈ lw_tbl := ev_mem 903 (by decide +kernel)
theorem wd_904 : Cond.instanceMethod ⟨"PreferTableModel", "value", "(II)I"⟩ ∈ lw_tbl := ev_mem 904 (by decide +kernel)
theorem wd_905 : Cond.selects "PreferTableModel" ⟨"PreferTableModel", "value", "(II)I"⟩ ⟨"PreferTableModel", "value", "(II)I"⟩ ∈ lw_tbl := ev_mem 905 (by decide +kernel)
theorem wd_906 : Cond.code ⟨"PreferTableModel", "value", "(II)I"⟩ prog_14_method_10_code 3 (Option.some Jvm.ClassFile.FieldType.int) ∈ lw_tbl := ev_mem 906 (by decide +kernel)
theorem wd_907 : Cond.methodLink "PreferTableLaw" 94 ⟨"PreferTableModel", "order", "(IIII)I"⟩ ∈ lw_tbl := ev_mem 907 (by decide +kernel)
theorem wd_908 : Cond.instanceMethod ⟨"PreferTableModel", "order", "(IIII)I"⟩ ∈ lw_tbl := ev_mem 908 (by decide +kernel)
theorem wd_909 : Cond.selects "PreferTableModel" ⟨"PreferTableModel", "order", "(IIII)I"⟩ ⟨"PreferTableModel", "order", "(IIII)I"⟩ ∈ lw_tbl := ev_mem 909 (by decide +kernel)
theorem wd_910 : Cond.code ⟨"PreferTableModel", "order", "(IIII)I"⟩ prog_14_method_11_code 6 (Option.some Jvm.ClassFile.FieldType.int) ∈ lw_tbl := ev_mem 910 (by decide +kernel)
theorem wd_911 : Cond.methodLink "PreferTableLaw" 98 ⟨"PreferTableModel", "layer", "(III)Z"⟩ ∈ lw_tbl := ev_mem 911 (by decide +kernel)
theorem wd_912 : Cond.instanceMethod ⟨"PreferTableModel", "layer", "(III)Z"⟩ ∈ lw_tbl := ev_mem 912 (by decide +kernel)
theorem wd_913 : Cond.selects "PreferTableModel" ⟨"PreferTableModel", "layer", "(III)Z"⟩ ⟨"PreferTableModel", "layer", "(III)Z"⟩ ∈ lw_tbl := ev_mem 913 (by decide +kernel)
theorem wd_914 : Cond.code ⟨"PreferTableModel", "layer", "(III)Z"⟩ prog_14_method_13_code 4 (Option.some Jvm.ClassFile.FieldType.boolean) ∈ lw_tbl := ev_mem 914 (by decide +kernel)
theorem wd_915 : Cond.methodLink "PreferTableModel" 116 ⟨"PreferTableModel", "isNode", "(I)Z"⟩ ∈ lw_tbl := ev_mem 915 (by decide +kernel)
theorem wd_917 : Cond.instanceMethod ⟨"PreferTableModel", "isNode", "(I)Z"⟩ ∈ lw_tbl := ev_mem 917 (by decide +kernel)
theorem wd_918 : Cond.code ⟨"PreferTableModel", "isNode", "(I)Z"⟩ prog_14_method_5_code 2 (Option.some Jvm.ClassFile.FieldType.boolean) ∈ lw_tbl := ev_mem 918 (by decide +kernel)
theorem wd_919 : Cond.methodLink "PreferTableModel" 119 ⟨"PreferTableModel", "isPlain", "(I)Z"⟩ ∈ lw_tbl := ev_mem 919 (by decide +kernel)
theorem wd_920 : Cond.static ⟨"PreferTableModel", "isPlain", "(I)Z"⟩ ∈ lw_tbl := ev_mem 920 (by decide +kernel)
theorem wd_921 : Cond.code ⟨"PreferTableModel", "isPlain", "(I)Z"⟩ prog_14_method_12_code 1 (Option.some Jvm.ClassFile.FieldType.boolean) ∈ lw_tbl := ev_mem 921 (by decide +kernel)
theorem wd_922 : Cond.methodLink "PreferTableLaw" 102 ⟨"PreferTableModel", "edge", "(III)Z"⟩ ∈ lw_tbl := ev_mem 922 (by decide +kernel)
theorem wd_923 : Cond.instanceMethod ⟨"PreferTableModel", "edge", "(III)Z"⟩ ∈ lw_tbl := ev_mem 923 (by decide +kernel)
theorem wd_924 : Cond.selects "PreferTableModel" ⟨"PreferTableModel", "edge", "(III)Z"⟩ ⟨"PreferTableModel", "edge", "(III)Z"⟩ ∈ lw_tbl := ev_mem 924 (by decide +kernel)
theorem wd_925 : Cond.code ⟨"PreferTableModel", "edge", "(III)Z"⟩ prog_14_method_15_code 4 (Option.some Jvm.ClassFile.FieldType.boolean) ∈ lw_tbl := ev_mem 925 (by decide +kernel)
theorem wd_926 : Cond.methodLink "PreferTableModel" 122 ⟨"PreferTableModel", "reached", "(II)I"⟩ ∈ lw_tbl := ev_mem 926 (by decide +kernel)
theorem wd_928 : Cond.instanceMethod ⟨"PreferTableModel", "reached", "(II)I"⟩ ∈ lw_tbl := ev_mem 928 (by decide +kernel)
theorem wd_929 : Cond.code ⟨"PreferTableModel", "reached", "(II)I"⟩ prog_14_method_14_code 6 (Option.some Jvm.ClassFile.FieldType.int) ∈ lw_tbl := ev_mem 929 (by decide +kernel)
theorem wd_930 : Cond.methodLink "PreferTableLaw" 105 ⟨"PreferTableModel", "term", "(III)I"⟩ ∈ lw_tbl := ev_mem 930 (by decide +kernel)
theorem wd_931 : Cond.instanceMethod ⟨"PreferTableModel", "term", "(III)I"⟩ ∈ lw_tbl := ev_mem 931 (by decide +kernel)
theorem wd_932 : Cond.selects "PreferTableModel" ⟨"PreferTableModel", "term", "(III)I"⟩ ⟨"PreferTableModel", "term", "(III)I"⟩ ∈ lw_tbl := ev_mem 932 (by decide +kernel)
theorem wd_933 : Cond.code ⟨"PreferTableModel", "term", "(III)I"⟩ prog_14_method_16_code 5 (Option.some Jvm.ClassFile.FieldType.int) ∈ lw_tbl := ev_mem 933 (by decide +kernel)
theorem wd_934 : Cond.methodLink "PreferTableLaw" 115 ⟨"PreferTableModel", "compare", "(III)I"⟩ ∈ lw_tbl := ev_mem 934 (by decide +kernel)
theorem wd_935 : Cond.instanceMethod ⟨"PreferTableModel", "compare", "(III)I"⟩ ∈ lw_tbl := ev_mem 935 (by decide +kernel)
theorem wd_936 : Cond.selects "PreferTableModel" ⟨"PreferTableModel", "compare", "(III)I"⟩ ⟨"PreferTableModel", "compare", "(III)I"⟩ ∈ lw_tbl := ev_mem 936 (by decide +kernel)
theorem wd_937 : Cond.code ⟨"PreferTableModel", "compare", "(III)I"⟩ prog_14_method_25_code 4 (Option.some Jvm.ClassFile.FieldType.int) ∈ lw_tbl := ev_mem 937 (by decide +kernel)
theorem wd_938 : Cond.methodLink "PreferTableModel" 152 ⟨"PreferTableModel", "say", "(III)I"⟩ ∈ lw_tbl := ev_mem 938 (by decide +kernel)
theorem wd_940 : Cond.instanceMethod ⟨"PreferTableModel", "say", "(III)I"⟩ ∈ lw_tbl := ev_mem 940 (by decide +kernel)
theorem wd_941 : Cond.code ⟨"PreferTableModel", "say", "(III)I"⟩ prog_14_method_24_code 5 (Option.some Jvm.ClassFile.FieldType.int) ∈ lw_tbl := ev_mem 941 (by decide +kernel)
theorem wd_942 : Cond.methodLink "PreferTableModel" 146 ⟨"PreferTableModel", "ordered", "(III)I"⟩ ∈ lw_tbl := ev_mem 942 (by decide +kernel)
theorem wd_944 : Cond.instanceMethod ⟨"PreferTableModel", "ordered", "(III)I"⟩ ∈ lw_tbl := ev_mem 944 (by decide +kernel)
theorem wd_945 : Cond.code ⟨"PreferTableModel", "ordered", "(III)I"⟩ prog_14_method_21_code 4 (Option.some Jvm.ClassFile.FieldType.int) ∈ lw_tbl := ev_mem 945 (by decide +kernel)
theorem wd_946 : Cond.methodLink "PreferTableModel" 128 ⟨"PreferTableModel", "byLess", "(JJ)I"⟩ ∈ lw_tbl := ev_mem 946 (by decide +kernel)
theorem wd_947 : Cond.static ⟨"PreferTableModel", "byLess", "(JJ)I"⟩ ∈ lw_tbl := ev_mem 947 (by decide +kernel)
theorem wd_948 : Cond.code ⟨"PreferTableModel", "byLess", "(JJ)I"⟩ prog_14_method_17_code 4 (Option.some Jvm.ClassFile.FieldType.int) ∈ lw_tbl := ev_mem 948 (by decide +kernel)
theorem wd_949 : Cond.methodLink "PreferTableModel" 132 ⟨"PreferTableModel", "depth", "(II)J"⟩ ∈ lw_tbl := ev_mem 949 (by decide +kernel)
theorem wd_951 : Cond.instanceMethod ⟨"PreferTableModel", "depth", "(II)J"⟩ ∈ lw_tbl := ev_mem 951 (by decide +kernel)
theorem wd_952 : Cond.code ⟨"PreferTableModel", "depth", "(II)J"⟩ prog_14_method_20_code 4 (Option.some Jvm.ClassFile.FieldType.long) ∈ lw_tbl := ev_mem 952 (by decide +kernel)
theorem wd_954 : Cond.methodLink "PreferTableModel" 136 ⟨"PreferTableModel", "graph", "(III)I"⟩ ∈ lw_tbl := ev_mem 954 (by decide +kernel)
theorem wd_956 : Cond.instanceMethod ⟨"PreferTableModel", "graph", "(III)I"⟩ ∈ lw_tbl := ev_mem 956 (by decide +kernel)
theorem wd_957 : Cond.code ⟨"PreferTableModel", "graph", "(III)I"⟩ prog_14_method_19_code 4 (Option.some Jvm.ClassFile.FieldType.int) ∈ lw_tbl := ev_mem 957 (by decide +kernel)
theorem wd_958 : Cond.methodLink "PreferTableModel" 140 ⟨"PreferTableModel", "distance", "(II)J"⟩ ∈ lw_tbl := ev_mem 958 (by decide +kernel)
theorem wd_960 : Cond.instanceMethod ⟨"PreferTableModel", "distance", "(II)J"⟩ ∈ lw_tbl := ev_mem 960 (by decide +kernel)
theorem wd_961 : Cond.code ⟨"PreferTableModel", "distance", "(II)J"⟩ prog_14_method_18_code 7 (Option.some Jvm.ClassFile.FieldType.long) ∈ lw_tbl := ev_mem 961 (by decide +kernel)
theorem wd_962 : Cond.methodLink "PreferTableModel" 149 ⟨"PreferTableModel", "joined", "(III)I"⟩ ∈ lw_tbl := ev_mem 962 (by decide +kernel)
theorem wd_964 : Cond.instanceMethod ⟨"PreferTableModel", "joined", "(III)I"⟩ ∈ lw_tbl := ev_mem 964 (by decide +kernel)
theorem wd_965 : Cond.code ⟨"PreferTableModel", "joined", "(III)I"⟩ prog_14_method_23_code 5 (Option.some Jvm.ClassFile.FieldType.int) ∈ lw_tbl := ev_mem 965 (by decide +kernel)
theorem wd_966 : Cond.methodLink "PreferTableModel" 143 ⟨"PreferTableModel", "pareto", "(II)I"⟩ ∈ lw_tbl := ev_mem 966 (by decide +kernel)
theorem wd_967 : Cond.static ⟨"PreferTableModel", "pareto", "(II)I"⟩ ∈ lw_tbl := ev_mem 967 (by decide +kernel)
theorem wd_968 : Cond.code ⟨"PreferTableModel", "pareto", "(II)I"⟩ prog_14_method_22_code 2 (Option.some Jvm.ClassFile.FieldType.int) ∈ lw_tbl := ev_mem 968 (by decide +kernel)
theorem wd_969 : Cond.methodLink "PreferTableLaw" 108 ⟨"PreferTableModel", "condition", "(III)I"⟩ ∈ lw_tbl := ev_mem 969 (by decide +kernel)
theorem wd_970 : Cond.instanceMethod ⟨"PreferTableModel", "condition", "(III)I"⟩ ∈ lw_tbl := ev_mem 970 (by decide +kernel)
theorem wd_971 : Cond.selects "PreferTableModel" ⟨"PreferTableModel", "condition", "(III)I"⟩ ⟨"PreferTableModel", "condition", "(III)I"⟩ ∈ lw_tbl := ev_mem 971 (by decide +kernel)
theorem wd_972 : Cond.code ⟨"PreferTableModel", "condition", "(III)I"⟩ prog_14_method_26_code 5 (Option.some Jvm.ClassFile.FieldType.int) ∈ lw_tbl := ev_mem 972 (by decide +kernel)
theorem wd_973 : Cond.methodLink "PreferTableLaw" 112 ⟨"PreferTableModel", "free", "()V"⟩ ∈ lw_tbl := ev_mem 973 (by decide +kernel)
theorem wd_974 : Cond.instanceMethod ⟨"PreferTableModel", "free", "()V"⟩ ∈ lw_tbl := ev_mem 974 (by decide +kernel)
theorem wd_975 : Cond.selects "PreferTableModel" ⟨"PreferTableModel", "free", "()V"⟩ ⟨"PreferTableModel", "free", "()V"⟩ ∈ lw_tbl := ev_mem 975 (by decide +kernel)
theorem wd_976 : Cond.code ⟨"PreferTableModel", "free", "()V"⟩ prog_14_method_27_code 1 Option.none ∈ lw_tbl := ev_mem 976 (by decide +kernel)
theorem wd_977 : Cond.methodLink "PreferTableLaw" 119 ⟨"PreferTableModel", "best", "(I)I"⟩ ∈ lw_tbl := ev_mem 977 (by decide +kernel)
theorem wd_978 : Cond.instanceMethod ⟨"PreferTableModel", "best", "(I)I"⟩ ∈ lw_tbl := ev_mem 978 (by decide +kernel)
theorem wd_979 : Cond.selects "PreferTableModel" ⟨"PreferTableModel", "best", "(I)I"⟩ ⟨"PreferTableModel", "best", "(I)I"⟩ ∈ lw_tbl := ev_mem 979 (by decide +kernel)
theorem wd_980 : Cond.code ⟨"PreferTableModel", "best", "(I)I"⟩ prog_14_method_32_code 3 (Option.some Jvm.ClassFile.FieldType.int) ∈ lw_tbl := ev_mem 980 (by decide +kernel)
theorem wd_981 : Cond.methodLink "PreferTableModel" 166 ⟨"PreferTableModel", "mark", "(III)I"⟩ ∈ lw_tbl := ev_mem 981 (by decide +kernel)
theorem wd_983 : Cond.instanceMethod ⟨"PreferTableModel", "mark", "(III)I"⟩ ∈ lw_tbl := ev_mem 983 (by decide +kernel)
theorem wd_984 : Cond.code ⟨"PreferTableModel", "mark", "(III)I"⟩ prog_14_method_30_code 8 (Option.some Jvm.ClassFile.FieldType.int) ∈ lw_tbl := ev_mem 984 (by decide +kernel)
theorem wd_985 : Cond.methodLink "PreferTableModel" 159 ⟨"PreferTableModel", "passes", "(II)Z"⟩ ∈ lw_tbl := ev_mem 985 (by decide +kernel)
theorem wd_987 : Cond.instanceMethod ⟨"PreferTableModel", "passes", "(II)Z"⟩ ∈ lw_tbl := ev_mem 987 (by decide +kernel)
theorem wd_988 : Cond.code ⟨"PreferTableModel", "passes", "(II)Z"⟩ prog_14_method_29_code 5 (Option.some Jvm.ClassFile.FieldType.boolean) ∈ lw_tbl := ev_mem 988 (by decide +kernel)
theorem wd_989 : Cond.methodLink "PreferTableModel" 155 ⟨"PreferTableModel", "holds", "(III)Z"⟩ ∈ lw_tbl := ev_mem 989 (by decide +kernel)
theorem wd_990 : Cond.static ⟨"PreferTableModel", "holds", "(III)Z"⟩ ∈ lw_tbl := ev_mem 990 (by decide +kernel)
theorem wd_991 : Cond.code ⟨"PreferTableModel", "holds", "(III)Z"⟩ prog_14_method_28_code 3 (Option.some Jvm.ClassFile.FieldType.boolean) ∈ lw_tbl := ev_mem 991 (by decide +kernel)
theorem wd_992 : Cond.methodLink "PreferTableModel" 169 ⟨"PreferTableModel", "answerBest", "()I"⟩ ∈ lw_tbl := ev_mem 992 (by decide +kernel)
theorem wd_994 : Cond.instanceMethod ⟨"PreferTableModel", "answerBest", "()I"⟩ ∈ lw_tbl := ev_mem 994 (by decide +kernel)
theorem wd_995 : Cond.code ⟨"PreferTableModel", "answerBest", "()I"⟩ prog_14_method_31_code 2 (Option.some Jvm.ClassFile.FieldType.int) ∈ lw_tbl := ev_mem 995 (by decide +kernel)
theorem wd_996 : Cond.methodLink "PreferTableLaw" 122 ⟨"PreferTableModel", "grouped", "(II)I"⟩ ∈ lw_tbl := ev_mem 996 (by decide +kernel)
theorem wd_997 : Cond.instanceMethod ⟨"PreferTableModel", "grouped", "(II)I"⟩ ∈ lw_tbl := ev_mem 997 (by decide +kernel)
theorem wd_998 : Cond.selects "PreferTableModel" ⟨"PreferTableModel", "grouped", "(II)I"⟩ ⟨"PreferTableModel", "grouped", "(II)I"⟩ ∈ lw_tbl := ev_mem 998 (by decide +kernel)
theorem wd_999 : Cond.code ⟨"PreferTableModel", "grouped", "(II)I"⟩ prog_14_method_33_code 4 (Option.some Jvm.ClassFile.FieldType.int) ∈ lw_tbl := ev_mem 999 (by decide +kernel)
theorem wd_1000 : Cond.methodLink "PreferTableLaw" 125 ⟨"PreferTableModel", "top", "(II)I"⟩ ∈ lw_tbl := ev_mem 1000 (by decide +kernel)
theorem wd_1001 : Cond.instanceMethod ⟨"PreferTableModel", "top", "(II)I"⟩ ∈ lw_tbl := ev_mem 1001 (by decide +kernel)
theorem wd_1002 : Cond.selects "PreferTableModel" ⟨"PreferTableModel", "top", "(II)I"⟩ ⟨"PreferTableModel", "top", "(II)I"⟩ ∈ lw_tbl := ev_mem 1002 (by decide +kernel)
theorem wd_1003 : Cond.code ⟨"PreferTableModel", "top", "(II)I"⟩ prog_14_method_35_code 5 (Option.some Jvm.ClassFile.FieldType.int) ∈ lw_tbl := ev_mem 1003 (by decide +kernel)
theorem wd_1004 : Cond.methodLink "PreferTableModel" 172 ⟨"PreferTableModel", "weigh", "(I)V"⟩ ∈ lw_tbl := ev_mem 1004 (by decide +kernel)
theorem wd_1006 : Cond.instanceMethod ⟨"PreferTableModel", "weigh", "(I)V"⟩ ∈ lw_tbl := ev_mem 1006 (by decide +kernel)
theorem wd_1007 : Cond.code ⟨"PreferTableModel", "weigh", "(I)V"⟩ prog_14_method_34_code 6 Option.none ∈ lw_tbl := ev_mem 1007 (by decide +kernel)
theorem wd_1008 : Cond.methodLink "PreferTableLaw" 128 ⟨"PreferTableModel", "level", "(II)I"⟩ ∈ lw_tbl := ev_mem 1008 (by decide +kernel)
theorem wd_1009 : Cond.instanceMethod ⟨"PreferTableModel", "level", "(II)I"⟩ ∈ lw_tbl := ev_mem 1009 (by decide +kernel)
theorem wd_1010 : Cond.selects "PreferTableModel" ⟨"PreferTableModel", "level", "(II)I"⟩ ⟨"PreferTableModel", "level", "(II)I"⟩ ∈ lw_tbl := ev_mem 1010 (by decide +kernel)
theorem wd_1011 : Cond.code ⟨"PreferTableModel", "level", "(II)I"⟩ prog_14_method_36_code 3 (Option.some Jvm.ClassFile.FieldType.int) ∈ lw_tbl := ev_mem 1011 (by decide +kernel)
theorem wd_1012 : Cond.methodLink "PreferTableLaw" 132 ⟨"PreferTableModel", "answer", "(I)I"⟩ ∈ lw_tbl := ev_mem 1012 (by decide +kernel)
theorem wd_1013 : Cond.instanceMethod ⟨"PreferTableModel", "answer", "(I)I"⟩ ∈ lw_tbl := ev_mem 1013 (by decide +kernel)
theorem wd_1014 : Cond.selects "PreferTableModel" ⟨"PreferTableModel", "answer", "(I)I"⟩ ⟨"PreferTableModel", "answer", "(I)I"⟩ ∈ lw_tbl := ev_mem 1014 (by decide +kernel)
theorem wd_1015 : Cond.code ⟨"PreferTableModel", "answer", "(I)I"⟩ prog_14_method_37_code 2 (Option.some Jvm.ClassFile.FieldType.int) ∈ lw_tbl := ev_mem 1015 (by decide +kernel)
theorem wd_1016 : Cond.methodLink "PreferTableLaw" 135 ⟨"PreferTableModel", "reason", "(IIII)I"⟩ ∈ lw_tbl := ev_mem 1016 (by decide +kernel)
theorem wd_1017 : Cond.instanceMethod ⟨"PreferTableModel", "reason", "(IIII)I"⟩ ∈ lw_tbl := ev_mem 1017 (by decide +kernel)
theorem wd_1018 : Cond.selects "PreferTableModel" ⟨"PreferTableModel", "reason", "(IIII)I"⟩ ⟨"PreferTableModel", "reason", "(IIII)I"⟩ ∈ lw_tbl := ev_mem 1018 (by decide +kernel)
theorem wd_1019 : Cond.code ⟨"PreferTableModel", "reason", "(IIII)I"⟩ prog_14_method_38_code 12 (Option.some Jvm.ClassFile.FieldType.int) ∈ lw_tbl := ev_mem 1019 (by decide +kernel)
theorem wd_1020 : Cond.methodLink "PreferTableLaw" 138 ⟨"PreferTableModel", "save", "(II)I"⟩ ∈ lw_tbl := ev_mem 1020 (by decide +kernel)
theorem wd_1021 : Cond.instanceMethod ⟨"PreferTableModel", "save", "(II)I"⟩ ∈ lw_tbl := ev_mem 1021 (by decide +kernel)
theorem wd_1022 : Cond.selects "PreferTableModel" ⟨"PreferTableModel", "save", "(II)I"⟩ ⟨"PreferTableModel", "save", "(II)I"⟩ ∈ lw_tbl := ev_mem 1022 (by decide +kernel)
theorem wd_1023 : Cond.code ⟨"PreferTableModel", "save", "(II)I"⟩ prog_14_method_40_code 4 (Option.some Jvm.ClassFile.FieldType.int) ∈ lw_tbl := ev_mem 1023 (by decide +kernel)
theorem wd_1024 : Cond.methodLink "PreferTableModel" 176 ⟨"PreferTableModel", "readNow", "(I)I"⟩ ∈ lw_tbl := ev_mem 1024 (by decide +kernel)
theorem wd_1026 : Cond.instanceMethod ⟨"PreferTableModel", "readNow", "(I)I"⟩ ∈ lw_tbl := ev_mem 1026 (by decide +kernel)
theorem wd_1027 : Cond.code ⟨"PreferTableModel", "readNow", "(I)I"⟩ prog_14_method_39_code 4 (Option.some Jvm.ClassFile.FieldType.int) ∈ lw_tbl := ev_mem 1027 (by decide +kernel)
theorem wd_1028 : Cond.methodLink "PreferTableLaw" 142 ⟨"PreferTableModel", "saved", "(III)I"⟩ ∈ lw_tbl := ev_mem 1028 (by decide +kernel)
theorem wd_1029 : Cond.instanceMethod ⟨"PreferTableModel", "saved", "(III)I"⟩ ∈ lw_tbl := ev_mem 1029 (by decide +kernel)
theorem wd_1030 : Cond.selects "PreferTableModel" ⟨"PreferTableModel", "saved", "(III)I"⟩ ⟨"PreferTableModel", "saved", "(III)I"⟩ ∈ lw_tbl := ev_mem 1030 (by decide +kernel)
theorem wd_1031 : Cond.code ⟨"PreferTableModel", "saved", "(III)I"⟩ prog_14_method_41_code 9 (Option.some Jvm.ClassFile.FieldType.int) ∈ lw_tbl := ev_mem 1031 (by decide +kernel)
theorem wd_1032 : Cond.methodLink "PreferTableLaw" 146 ⟨"PreferTableModel", "read", "(I)Z"⟩ ∈ lw_tbl := ev_mem 1032 (by decide +kernel)
theorem wd_1033 : Cond.instanceMethod ⟨"PreferTableModel", "read", "(I)Z"⟩ ∈ lw_tbl := ev_mem 1033 (by decide +kernel)
theorem wd_1034 : Cond.selects "PreferTableModel" ⟨"PreferTableModel", "read", "(I)Z"⟩ ⟨"PreferTableModel", "read", "(I)Z"⟩ ∈ lw_tbl := ev_mem 1034 (by decide +kernel)
theorem wd_1035 : Cond.code ⟨"PreferTableModel", "read", "(I)Z"⟩ prog_14_method_42_code 3 (Option.some Jvm.ClassFile.FieldType.boolean) ∈ lw_tbl := ev_mem 1035 (by decide +kernel)
theorem wd_1036 : Cond.methodLink "PreferTableLaw" 149 ⟨"PreferTableModel", "reduce", "(I)I"⟩ ∈ lw_tbl := ev_mem 1036 (by decide +kernel)
theorem wd_1037 : Cond.instanceMethod ⟨"PreferTableModel", "reduce", "(I)I"⟩ ∈ lw_tbl := ev_mem 1037 (by decide +kernel)
theorem wd_1038 : Cond.selects "PreferTableModel" ⟨"PreferTableModel", "reduce", "(I)I"⟩ ⟨"PreferTableModel", "reduce", "(I)I"⟩ ∈ lw_tbl := ev_mem 1038 (by decide +kernel)
theorem wd_1039 : Cond.code ⟨"PreferTableModel", "reduce", "(I)I"⟩ prog_14_method_49_code 3 (Option.some Jvm.ClassFile.FieldType.int) ∈ lw_tbl := ev_mem 1039 (by decide +kernel)
theorem wd_1040 : Cond.methodLink "PreferTableModel" 196 ⟨"PreferTableModel", "reducedOrder", "(I)I"⟩ ∈ lw_tbl := ev_mem 1040 (by decide +kernel)
theorem wd_1042 : Cond.instanceMethod ⟨"PreferTableModel", "reducedOrder", "(I)I"⟩ ∈ lw_tbl := ev_mem 1042 (by decide +kernel)
theorem wd_1043 : Cond.code ⟨"PreferTableModel", "reducedOrder", "(I)I"⟩ prog_14_method_44_code 4 (Option.some Jvm.ClassFile.FieldType.int) ∈ lw_tbl := ev_mem 1043 (by decide +kernel)
theorem wd_1044 : Cond.methodLink "PreferTableModel" 183 ⟨"PreferTableModel", "place", "(IIII)I"⟩ ∈ lw_tbl := ev_mem 1044 (by decide +kernel)
theorem wd_1046 : Cond.instanceMethod ⟨"PreferTableModel", "place", "(IIII)I"⟩ ∈ lw_tbl := ev_mem 1046 (by decide +kernel)
theorem wd_1047 : Cond.code ⟨"PreferTableModel", "place", "(IIII)I"⟩ prog_14_method_43_code 6 (Option.some Jvm.ClassFile.FieldType.int) ∈ lw_tbl := ev_mem 1047 (by decide +kernel)
theorem wd_1048 : Cond.methodLink "PreferTableModel" 199 ⟨"PreferTableModel", "reducedTerm", "(III)I"⟩ ∈ lw_tbl := ev_mem 1048 (by decide +kernel)
theorem wd_1050 : Cond.instanceMethod ⟨"PreferTableModel", "reducedTerm", "(III)I"⟩ ∈ lw_tbl := ev_mem 1050 (by decide +kernel)
theorem wd_1051 : Cond.code ⟨"PreferTableModel", "reducedTerm", "(III)I"⟩ prog_14_method_46_code 5 (Option.some Jvm.ClassFile.FieldType.int) ∈ lw_tbl := ev_mem 1051 (by decide +kernel)
theorem wd_1052 : Cond.methodLink "PreferTableModel" 187 ⟨"PreferTableModel", "dual", "(I)I"⟩ ∈ lw_tbl := ev_mem 1052 (by decide +kernel)
theorem wd_1054 : Cond.instanceMethod ⟨"PreferTableModel", "dual", "(I)I"⟩ ∈ lw_tbl := ev_mem 1054 (by decide +kernel)
theorem wd_1055 : Cond.code ⟨"PreferTableModel", "dual", "(I)I"⟩ prog_14_method_45_code 3 (Option.some Jvm.ClassFile.FieldType.int) ∈ lw_tbl := ev_mem 1055 (by decide +kernel)
theorem wd_1056 : Cond.methodLink "PreferTableModel" 202 ⟨"PreferTableModel", "write", "(I)V"⟩ ∈ lw_tbl := ev_mem 1056 (by decide +kernel)
theorem wd_1058 : Cond.instanceMethod ⟨"PreferTableModel", "write", "(I)V"⟩ ∈ lw_tbl := ev_mem 1058 (by decide +kernel)
theorem wd_1059 : Cond.code ⟨"PreferTableModel", "write", "(I)V"⟩ prog_14_method_48_code 5 Option.none ∈ lw_tbl := ev_mem 1059 (by decide +kernel)
theorem wd_1060 : Cond.methodLink "PreferTableModel" 193 ⟨"PreferTableModel", "emit", "(I)V"⟩ ∈ lw_tbl := ev_mem 1060 (by decide +kernel)
theorem wd_1062 : Cond.instanceMethod ⟨"PreferTableModel", "emit", "(I)V"⟩ ∈ lw_tbl := ev_mem 1062 (by decide +kernel)
theorem wd_1063 : Cond.code ⟨"PreferTableModel", "emit", "(I)V"⟩ prog_14_method_47_code 2 Option.none ∈ lw_tbl := ev_mem 1063 (by decide +kernel)
theorem wd_1064 : Cond.methodLink "PreferTableLaw" 152 ⟨"PreferTableModel", "form", "(I)I"⟩ ∈ lw_tbl := ev_mem 1064 (by decide +kernel)
theorem wd_1065 : Cond.instanceMethod ⟨"PreferTableModel", "form", "(I)I"⟩ ∈ lw_tbl := ev_mem 1065 (by decide +kernel)
theorem wd_1066 : Cond.selects "PreferTableModel" ⟨"PreferTableModel", "form", "(I)I"⟩ ⟨"PreferTableModel", "form", "(I)I"⟩ ∈ lw_tbl := ev_mem 1066 (by decide +kernel)
theorem wd_1067 : Cond.code ⟨"PreferTableModel", "form", "(I)I"⟩ prog_14_method_50_code 2 (Option.some Jvm.ClassFile.FieldType.int) ∈ lw_tbl := ev_mem 1067 (by decide +kernel)
theorem wd_objcode : Cond.code Lib.objectInit ⟨#[0xb1]⟩ 1 none ∈ lw_tbl := ev_mem 28 (by decide +kernel)
end
section
/-! Decode tables (written by gen_lean.py). -/
def tb_PT_init_0 : ev_tab := [(0, .aload_n 0, 1, 1), (1, .invokespecial 3, 3, 4), (4, .aload_n 0, 1, 5), (5, .new 9, 3, 8), (8, .dup, 1, 9), (9, .invokespecial 11, 3, 12), (12, .putfield 12, 3, 15), (15, .aload_n 0, 1, 16), (16, .bipush 24, 2, 18), (18, .anewarray 16, 3, 21), (21, .putfield 18, 3, 24), (24, .aload_n 0, 1, 25), (25, .iconst 0, 1, 26), (26, .putfield 22, 3, 29), (29, .aload_n 0, 1, 30), (30, .new 26, 3, 33), (33, .dup, 1, 34), (34, .invokespecial 28, 3, 37), (37, .putfield 29, 3, 40), (40, .aload_n 0, 1, 41), (41, .new 33, 3, 44), (44, .dup, 1, 45), (45, .invokespecial 35, 3, 48), (48, .putfield 36, 3, 51), (51, .aload_n 0, 1, 52), (52, .new 40, 3, 55), (55, .dup, 1, 56), (56, .invokespecial 42, 3, 59), (59, .putfield 43, 3, 62), (62, .aload_n 0, 1, 63), (63, .new 40, 3, 66), (66, .dup, 1, 67), (67, .invokespecial 42, 3, 70), (70, .putfield 47, 3, 73), (73, .aload_n 0, 1, 74), (74, .iconst 4, 1, 75), (75, .anewarray 50, 3, 78), (78, .putfield 52, 3, 81), (81, .aload_n 0, 1, 82), (82, .iconst 0, 1, 83), (83, .putfield 56, 3, 86), (86, .aload_n 0, 1, 87), (87, .sipush 160, 3, 90), (90, .newarray .int, 2, 92), (92, .putfield 59, 3, 95), (95, .aload_n 0, 1, 96), (96, .iconst 0, 1, 97), (97, .putfield 63, 3, 100), (100, .iconst 0, 1, 101), (101, .istore_n 1, 1, 102), (102, .iload_n 1, 1, 103), (103, .iconst 4, 1, 104), (104, .if_icmp .ge 22, 3, 107), (107, .aload_n 0, 1, 108), (108, .getfield 52, 3, 111), (111, .iload_n 1, 1, 112), (112, .new 50, 3, 115), (115, .dup, 1, 116), (116, .invokespecial 66, 3, 119), (119, .aastore, 1, 120)]
theorem dt_PT_init_0 : ev_dall m_PT_init tb_PT_init_0 := by decide +kernel
def tb_PT_init_1 : ev_tab := [(120, .iinc 1 1, 3, 123), (123, .goto (-21), 3, 126), (126, .return_, 1, 127)]
theorem dt_PT_init_1 : ev_dall m_PT_init tb_PT_init_1 := by decide +kernel
def tb_Rows_init_0 : ev_tab := [(0, .aload_n 0, 1, 1), (1, .invokespecial 3, 3, 4), (4, .aload_n 0, 1, 5), (5, .bipush 24, 2, 7), (7, .newarray .int, 2, 9), (9, .putfield 9, 3, 12), (12, .aload_n 0, 1, 13), (13, .bipush 24, 2, 15), (15, .iconst 4, 1, 16), (16, .multianewarray 15 2, 4, 20), (20, .putfield 17, 3, 23), (23, .aload_n 0, 1, 24), (24, .iconst 0, 1, 25), (25, .putfield 20, 3, 28), (28, .aload_n 0, 1, 29), (29, .iconst 0, 1, 30), (30, .putfield 24, 3, 33), (33, .return_, 1, 34)]
theorem dt_Rows_init_0 : ev_dall m_Rows_init tb_Rows_init_0 := by decide +kernel
def tb_Conditions_init_0 : ev_tab := [(0, .aload_n 0, 1, 1), (1, .invokespecial 3, 3, 4), (4, .aload_n 0, 1, 5), (5, .iconst 4, 1, 6), (6, .newarray .int, 2, 8), (8, .putfield 9, 3, 11), (11, .aload_n 0, 1, 12), (12, .iconst 4, 1, 13), (13, .newarray .int, 2, 15), (15, .putfield 15, 3, 18), (18, .aload_n 0, 1, 19), (19, .iconst 4, 1, 20), (20, .newarray .int, 2, 22), (22, .putfield 18, 3, 25), (25, .aload_n 0, 1, 26), (26, .iconst 0, 1, 27), (27, .putfield 21, 3, 30), (30, .return_, 1, 31)]
theorem dt_Conditions_init_0 : ev_dall m_Conditions_init tb_Conditions_init_0 := by decide +kernel
def tb_Contest_init_0 : ev_tab := [(0, .aload_n 0, 1, 1), (1, .invokespecial 3, 3, 4), (4, .aload_n 0, 1, 5), (5, .bipush 24, 2, 7), (7, .newarray .int, 2, 9), (9, .putfield 9, 3, 12), (12, .aload_n 0, 1, 13), (13, .bipush 24, 2, 15), (15, .newarray .int, 2, 17), (17, .putfield 15, 3, 20), (20, .aload_n 0, 1, 21), (21, .iconst 0, 1, 22), (22, .putfield 18, 3, 25), (25, .return_, 1, 26)]
theorem dt_Contest_init_0 : ev_dall m_Contest_init tb_Contest_init_0 := by decide +kernel
def tb_RowList_init_0 : ev_tab := [(0, .aload_n 0, 1, 1), (1, .invokespecial 3, 3, 4), (4, .aload_n 0, 1, 5), (5, .bipush 24, 2, 7), (7, .newarray .int, 2, 9), (9, .putfield 9, 3, 12), (12, .aload_n 0, 1, 13), (13, .iconst 0, 1, 14), (14, .putfield 15, 3, 17), (17, .return_, 1, 18)]
theorem dt_RowList_init_0 : ev_dall m_RowList_init tb_RowList_init_0 := by decide +kernel
def tb_Question_init_0 : ev_tab := [(0, .aload_n 0, 1, 1), (1, .invokespecial 3, 3, 4), (4, .aload_n 0, 1, 5), (5, .aconst_null, 1, 6), (6, .putfield 9, 3, 9), (9, .aload_n 0, 1, 10), (10, .new 15, 3, 13), (13, .dup, 1, 14), (14, .invokespecial 17, 3, 17), (17, .putfield 18, 3, 20), (20, .aload_n 0, 1, 21), (21, .new 22, 3, 24), (24, .dup, 1, 25), (25, .invokespecial 24, 3, 28), (28, .putfield 25, 3, 31), (31, .aload_n 0, 1, 32), (32, .new 22, 3, 35), (35, .dup, 1, 36), (36, .invokespecial 24, 3, 39), (39, .putfield 29, 3, 42), (42, .aload_n 0, 1, 43), (43, .iconst (-1), 1, 44), (44, .putfield 32, 3, 47), (47, .return_, 1, 48)]
theorem dt_Question_init_0 : ev_dall m_Question_init tb_Question_init_0 := by decide +kernel
def tb_PT_change_0 : ev_tab := [(0, .aload_n 0, 1, 1), (1, .getfield 12, 3, 4), (4, .iload_n 1, 1, 5), (5, .invokevirtual 82, 3, 8), (8, .istore 4, 2, 10), (10, .iload 4, 2, 12), (12, .iconst (-1), 1, 13), (13, .if_icmp .eq 10, 3, 16), (16, .iload_n 2, 1, 17), (17, .invokestatic 86, 3, 20), (20, .ifCond .ne 5, 3, 23), (23, .iconst 0, 1, 24), (24, .ireturn, 1, 25), (25, .aload_n 0, 1, 26), (26, .getfield 12, 3, 29), (29, .getfield 90, 3, 32), (32, .iload 4, 2, 34), (34, .aaload, 1, 35), (35, .iload_n 2, 1, 36), (36, .iload_n 3, 1, 37), (37, .iastore, 1, 38), (38, .aload_n 0, 1, 39), (39, .dup, 1, 40), (40, .getfield 56, 3, 43), (43, .iconst 1, 1, 44), (44, .iadd, 1, 45), (45, .putfield 56, 3, 48), (48, .iconst 1, 1, 49), (49, .ireturn, 1, 50)]
theorem dt_PT_change_0 : ev_dall m_PT_change tb_PT_change_0 := by decide +kernel
def tb_Rows_placeOf_0 : ev_tab := [(0, .iconst 0, 1, 1), (1, .istore_n 2, 1, 2), (2, .iload_n 2, 1, 3), (3, .aload_n 0, 1, 4), (4, .getfield 20, 3, 7), (7, .if_icmp .ge 21, 3, 10), (10, .aload_n 0, 1, 11), (11, .getfield 9, 3, 14), (14, .iload_n 2, 1, 15), (15, .iaload, 1, 16), (16, .iload_n 1, 1, 17), (17, .if_icmp .ne 5, 3, 20), (20, .iload_n 2, 1, 21), (21, .ireturn, 1, 22), (22, .iinc 2 1, 3, 25), (25, .goto (-23), 3, 28), (28, .iconst (-1), 1, 29), (29, .ireturn, 1, 30)]
theorem dt_Rows_placeOf_0 : ev_dall m_Rows_placeOf tb_Rows_placeOf_0 := by decide +kernel
def tb_PT_isColumn_0 : ev_tab := [(0, .iload_n 0, 1, 1), (1, .ifCond .lt 12, 3, 4), (4, .iload_n 0, 1, 5), (5, .iconst 4, 1, 6), (6, .if_icmp .ge 7, 3, 9), (9, .iconst 1, 1, 10), (10, .goto 4, 3, 13), (13, .iconst 0, 1, 14), (14, .ireturn, 1, 15)]
theorem dt_PT_isColumn_0 : ev_dall m_PT_isColumn tb_PT_isColumn_0 := by decide +kernel
def tb_PT_remove_0 : ev_tab := [(0, .aload_n 0, 1, 1), (1, .getfield 12, 3, 4), (4, .iload_n 1, 1, 5), (5, .invokevirtual 82, 3, 8), (8, .istore_n 2, 1, 9), (9, .iload_n 2, 1, 10), (10, .iconst (-1), 1, 11), (11, .if_icmp .ne 5, 3, 14), (14, .iconst 0, 1, 15), (15, .ireturn, 1, 16), (16, .aload_n 0, 1, 17), (17, .getfield 12, 3, 20), (20, .iload_n 2, 1, 21), (21, .invokevirtual 94, 3, 24), (24, .aload_n 0, 1, 25), (25, .dup, 1, 26), (26, .getfield 56, 3, 29), (29, .iconst 1, 1, 30), (30, .iadd, 1, 31), (31, .putfield 56, 3, 34), (34, .iconst 1, 1, 35), (35, .ireturn, 1, 36)]
theorem dt_PT_remove_0 : ev_dall m_PT_remove tb_PT_remove_0 := by decide +kernel
def tb_Rows_drop_0 : ev_tab := [(0, .aload_n 0, 1, 1), (1, .dup, 1, 2), (2, .getfield 20, 3, 5), (5, .iconst 1, 1, 6), (6, .isub, 1, 7), (7, .putfield 20, 3, 10), (10, .iload_n 1, 1, 11), (11, .istore_n 2, 1, 12), (12, .iload_n 2, 1, 13), (13, .aload_n 0, 1, 14), (14, .getfield 20, 3, 17), (17, .if_icmp .ge 43, 3, 20), (20, .aload_n 0, 1, 21), (21, .getfield 9, 3, 24), (24, .iload_n 2, 1, 25), (25, .aload_n 0, 1, 26), (26, .getfield 9, 3, 29), (29, .iload_n 2, 1, 30), (30, .iconst 1, 1, 31), (31, .iadd, 1, 32), (32, .iaload, 1, 33), (33, .iastore, 1, 34), (34, .aload_n 0, 1, 35), (35, .getfield 17, 3, 38), (38, .iload_n 2, 1, 39), (39, .iconst 1, 1, 40), (40, .iadd, 1, 41), (41, .aaload, 1, 42), (42, .iconst 0, 1, 43), (43, .aload_n 0, 1, 44), (44, .getfield 17, 3, 47), (47, .iload_n 2, 1, 48), (48, .aaload, 1, 49), (49, .iconst 0, 1, 50), (50, .iconst 4, 1, 51), (51, .invokestatic 27, 3, 54), (54, .iinc 2 1, 3, 57), (57, .goto (-45), 3, 60), (60, .return_, 1, 61)]
theorem dt_Rows_drop_0 : ev_dall m_Rows_drop tb_Rows_drop_0 := by decide +kernel
def tb_PT_layer_0 : ev_tab := [(0, .aload_n 0, 1, 1), (1, .iload_n 1, 1, 2), (2, .invokevirtual 118, 3, 5), (5, .ifCond .eq 20, 3, 8), (8, .iload_n 2, 1, 9), (9, .invokestatic 121, 3, 12), (12, .ifCond .eq 13, 3, 15), (15, .iload_n 3, 1, 16), (16, .iconst (-1), 1, 17), (17, .if_icmp .lt 8, 3, 20), (20, .iload_n 3, 1, 21), (21, .iconst 5, 1, 22), (22, .if_icmp .le 5, 3, 25), (25, .iconst 0, 1, 26), (26, .ireturn, 1, 27), (27, .aload_n 0, 1, 28), (28, .getfield 18, 3, 31), (31, .iload_n 1, 1, 32), (32, .aaload, 1, 33), (33, .astore 5, 2, 35), (35, .aload 5, 2, 37), (37, .instanceof 124, 3, 40), (40, .ifCond .eq 30, 3, 43), (43, .aload 5, 2, 45), (45, .checkcast 124, 3, 48), (48, .astore 4, 2, 50), (50, .aload 4, 2, 52), (52, .getfield 126, 3, 55), (55, .iload_n 2, 1, 56), (56, .iload_n 3, 1, 57), (57, .iastore, 1, 58), (58, .aload_n 0, 1, 59), (59, .dup, 1, 60), (60, .getfield 56, 3, 63), (63, .iconst 1, 1, 64), (64, .iadd, 1, 65), (65, .putfield 56, 3, 68), (68, .iconst 1, 1, 69), (69, .ireturn, 1, 70), (70, .iconst 0, 1, 71), (71, .ireturn, 1, 72)]
theorem dt_PT_layer_0 : ev_dall m_PT_layer tb_PT_layer_0 := by decide +kernel
def tb_PT_isNode_0 : ev_tab := [(0, .iload_n 1, 1, 1), (1, .ifCond .lt 15, 3, 4), (4, .iload_n 1, 1, 5), (5, .aload_n 0, 1, 6), (6, .getfield 22, 3, 9), (9, .if_icmp .ge 7, 3, 12), (12, .iconst 1, 1, 13), (13, .goto 4, 3, 16), (16, .iconst 0, 1, 17), (17, .ireturn, 1, 18)]
theorem dt_PT_isNode_0 : ev_dall m_PT_isNode tb_PT_isNode_0 := by decide +kernel
def tb_PT_isGraded_0 : ev_tab := [(0, .iload_n 0, 1, 1), (1, .ifCond .lt 13, 3, 4), (4, .iload_n 0, 1, 5), (5, .bipush 10, 2, 7), (7, .if_icmp .ge 7, 3, 10), (10, .iconst 1, 1, 11), (11, .goto 4, 3, 14), (14, .iconst 0, 1, 15), (15, .ireturn, 1, 16)]
theorem dt_PT_isGraded_0 : ev_dall m_PT_isGraded tb_PT_isGraded_0 := by decide +kernel
def tb_PT_free_0 : ev_tab := [(0, .aload_n 0, 1, 1), (1, .getfield 29, 3, 4), (4, .invokevirtual 162, 3, 7), (7, .return_, 1, 8)]
theorem dt_PT_free_0 : ev_dall m_PT_free tb_PT_free_0 := by decide +kernel
def tb_Conditions_clear_0 : ev_tab := [(0, .aload_n 0, 1, 1), (1, .iconst 0, 1, 2), (2, .putfield 21, 3, 5), (5, .return_, 1, 6)]
theorem dt_Conditions_clear_0 : ev_dall m_Conditions_clear tb_Conditions_clear_0 := by decide +kernel
def tb_PT_answer_0 : ev_tab := [(0, .aload_n 0, 1, 1), (1, .getfield 43, 3, 4), (4, .aload_n 0, 1, 5), (5, .getfield 47, 3, 8), (8, .iload_n 1, 1, 9), (9, .invokevirtual 200, 3, 12), (12, .ireturn, 1, 13)]
theorem dt_PT_answer_0 : ev_dall m_PT_answer tb_PT_answer_0 := by decide +kernel
def tb_RowList_pick_0 : ev_tab := [(0, .iconst 0, 1, 1), (1, .istore_n 3, 1, 2), (2, .iconst 0, 1, 3), (3, .istore 4, 2, 5), (5, .iload 4, 2, 7), (7, .aload_n 0, 1, 8), (8, .getfield 15, 3, 11), (11, .if_icmp .ge 39, 3, 14), (14, .aload_n 1, 1, 15), (15, .aload_n 0, 1, 16), (16, .getfield 9, 3, 19), (19, .iload 4, 2, 21), (21, .iaload, 1, 22), (22, .invokevirtual 25, 3, 25), (25, .ifCond .ne 19, 3, 28), (28, .iload_n 3, 1, 29), (29, .iload_n 2, 1, 30), (30, .if_icmp .ne 11, 3, 33), (33, .aload_n 0, 1, 34), (34, .getfield 9, 3, 37), (37, .iload 4, 2, 39), (39, .iaload, 1, 40), (40, .ireturn, 1, 41), (41, .iinc 3 1, 3, 44), (44, .iinc 4 1, 3, 47), (47, .goto (-42), 3, 50), (50, .iload_n 2, 1, 51), (51, .iconst (-1), 1, 52), (52, .if_icmp .ne 7, 3, 55), (55, .iload_n 3, 1, 56), (56, .goto 4, 3, 59), (59, .iconst (-1), 1, 60), (60, .ireturn, 1, 61)]
theorem dt_RowList_pick_0 : ev_dall m_RowList_pick tb_RowList_pick_0 := by decide +kernel
def tb_RowList_has_0 : ev_tab := [(0, .iconst 0, 1, 1), (1, .istore_n 2, 1, 2), (2, .iload_n 2, 1, 3), (3, .aload_n 0, 1, 4), (4, .getfield 15, 3, 7), (7, .if_icmp .ge 21, 3, 10), (10, .aload_n 0, 1, 11), (11, .getfield 9, 3, 14), (14, .iload_n 2, 1, 15), (15, .iaload, 1, 16), (16, .iload_n 1, 1, 17), (17, .if_icmp .ne 5, 3, 20), (20, .iconst 1, 1, 21), (21, .ireturn, 1, 22), (22, .iinc 2 1, 3, 25), (25, .goto (-23), 3, 28), (28, .iconst 0, 1, 29), (29, .ireturn, 1, 30)]
theorem dt_RowList_has_0 : ev_dall m_RowList_has tb_RowList_has_0 := by decide +kernel
def tb_PT_saved_0 : ev_tab := [(0, .aload_n 0, 1, 1), (1, .iload_n 1, 1, 2), (2, .invokevirtual 224, 3, 5), (5, .ifCond .ne 5, 3, 8), (8, .iconst (-1), 1, 9), (9, .ireturn, 1, 10), (10, .aload_n 0, 1, 11), (11, .getfield 52, 3, 14), (14, .iload_n 1, 1, 15), (15, .aaload, 1, 16), (16, .astore 4, 2, 18), (18, .aload_n 0, 1, 19), (19, .aload 4, 2, 21), (21, .invokevirtual 227, 3, 24), (24, .iload_n 2, 1, 25), (25, .tableswitch 71 0 2 #[27, 41, 56], 27, 52), (52, .aload 4, 2, 54), (54, .getfield 221, 3, 57), (57, .aload_n 0, 1, 58), (58, .getfield 47, 3, 61), (61, .iload_n 3, 1, 62), (62, .invokevirtual 200, 3, 65), (65, .ireturn, 1, 66), (66, .aload 4, 2, 68), (68, .getfield 221, 3, 71), (71, .aload 4, 2, 73), (73, .getfield 230, 3, 76), (76, .iload_n 3, 1, 77), (77, .invokevirtual 200, 3, 80), (80, .ireturn, 1, 81), (81, .aload 4, 2, 83), (83, .getfield 230, 3, 86), (86, .aload 4, 2, 88), (88, .getfield 221, 3, 91), (91, .iload_n 3, 1, 92), (92, .invokevirtual 200, 3, 95), (95, .ireturn, 1, 96), (96, .iconst (-1), 1, 97), (97, .ireturn, 1, 98)]
theorem dt_PT_saved_0 : ev_dall m_PT_saved tb_PT_saved_0 := by decide +kernel
def tb_PT_isSaved_0 : ev_tab := [(0, .iload_n 1, 1, 1), (1, .invokestatic 208, 3, 4), (4, .ifCond .eq 19, 3, 7), (7, .aload_n 0, 1, 8), (8, .getfield 52, 3, 11), (11, .iload_n 1, 1, 12), (12, .aaload, 1, 13), (13, .getfield 239, 3, 16), (16, .ifnull 7, 3, 19), (19, .iconst 1, 1, 20), (20, .goto 4, 3, 23), (23, .iconst 0, 1, 24), (24, .ireturn, 1, 25)]
theorem dt_PT_isSaved_0 : ev_dall m_PT_isSaved tb_PT_isSaved_0 := by decide +kernel
def tb_PT_isQuestion_0 : ev_tab := [(0, .iload_n 0, 1, 1), (1, .ifCond .lt 12, 3, 4), (4, .iload_n 0, 1, 5), (5, .iconst 4, 1, 6), (6, .if_icmp .ge 7, 3, 9), (9, .iconst 1, 1, 10), (10, .goto 4, 3, 13), (13, .iconst 0, 1, 14), (14, .ireturn, 1, 15)]
theorem dt_PT_isQuestion_0 : ev_dall m_PT_isQuestion tb_PT_isQuestion_0 := by decide +kernel
def tb_PT_keepUp_0 : ev_tab := [(0, .aload_n 1, 1, 1), (1, .getfield 274, 3, 4), (4, .aload_n 0, 1, 5), (5, .getfield 56, 3, 8), (8, .if_icmp .ne 4, 3, 11), (11, .return_, 1, 12), (12, .aload_n 0, 1, 13), (13, .getfield 36, 3, 16), (16, .aload_n 0, 1, 17), (17, .getfield 12, 3, 20), (20, .aload_n 1, 1, 21), (21, .getfield 239, 3, 24), (24, .aload_n 1, 1, 25), (25, .getfield 277, 3, 28), (28, .invokevirtual 173, 3, 31), (31, .aload_n 0, 1, 32), (32, .getfield 36, 3, 35), (35, .aload_n 0, 1, 36), (36, .getfield 12, 3, 39), (39, .aload_n 1, 1, 40), (40, .getfield 221, 3, 43), (43, .invokevirtual 177, 3, 46), (46, .aload_n 1, 1, 47), (47, .aload_n 0, 1, 48), (48, .getfield 56, 3, 51), (51, .putfield 274, 3, 54), (54, .return_, 1, 55)]
theorem dt_PT_keepUp_0 : ev_dall m_PT_keepUp tb_PT_keepUp_0 := by decide +kernel
def tb_Contest_hold_0 : ev_tab := [(0, .aload_n 0, 1, 1), (1, .aload_n 1, 1, 2), (2, .aload_n 3, 1, 3), (3, .invokevirtual 22, 3, 6), (6, .iconst 0, 1, 7), (7, .istore 4, 2, 9), (9, .iload 4, 2, 11), (11, .aload_n 1, 1, 12), (12, .getfield 26, 3, 15), (15, .if_icmp .ge 80, 3, 18), (18, .iload 4, 2, 20), (20, .iconst 1, 1, 21), (21, .iadd, 1, 22), (22, .istore 5, 2, 24), (24, .iload 5, 2, 26), (26, .aload_n 1, 1, 27), (27, .getfield 26, 3, 30), (30, .if_icmp .ge 59, 3, 33), (33, .aload_n 0, 1, 34), (34, .getfield 18, 3, 37), (37, .iload 4, 2, 39), (39, .invokestatic 31, 3, 42), (42, .ifCond .eq 41, 3, 45), (45, .aload_n 0, 1, 46), (46, .getfield 18, 3, 49), (49, .iload 5, 2, 51), (51, .invokestatic 31, 3, 54), (54, .ifCond .eq 29, 3, 57), (57, .aload_n 0, 1, 58), (58, .iload 4, 2, 60), (60, .iload 5, 2, 62), (62, .aload_n 2, 1, 63), (63, .aload_n 1, 1, 64), (64, .getfield 35, 3, 67), (67, .iload 4, 2, 69), (69, .aaload, 1, 70), (70, .aload_n 1, 1, 71), (71, .getfield 35, 3, 74), (74, .iload 5, 2, 76), (76, .aaload, 1, 77), (77, .invokevirtual 39, 3, 80), (80, .invokevirtual 45, 3, 83), (83, .iinc 5 1, 3, 86), (86, .goto (-62), 3, 89), (89, .iinc 4 1, 3, 92), (92, .goto (-83), 3, 95), (95, .return_, 1, 96)]
theorem dt_Contest_hold_0 : ev_dall m_Contest_hold tb_Contest_hold_0 := by decide +kernel
def tb_Contest_letIn_0 : ev_tab := [(0, .aload_n 0, 1, 1), (1, .iconst 0, 1, 2), (2, .putfield 18, 3, 5), (5, .iconst 0, 1, 6), (6, .istore_n 3, 1, 7), (7, .iload_n 3, 1, 8), (8, .aload_n 1, 1, 9), (9, .getfield 26, 3, 12), (12, .if_icmp .ge 41, 3, 15), (15, .aload_n 0, 1, 16), (16, .getfield 9, 3, 19), (19, .iload_n 3, 1, 20), (20, .iconst 0, 1, 21), (21, .iastore, 1, 22), (22, .aload_n 2, 1, 23), (23, .aload_n 1, 1, 24), (24, .getfield 35, 3, 27), (27, .iload_n 3, 1, 28), (28, .aaload, 1, 29), (29, .invokevirtual 49, 3, 32), (32, .ifCond .eq 15, 3, 35), (35, .aload_n 0, 1, 36), (36, .dup, 1, 37), (37, .getfield 18, 3, 40), (40, .iconst 1, 1, 41), (41, .iload_n 3, 1, 42), (42, .ishl, 1, 43), (43, .ior, 1, 44), (44, .putfield 18, 3, 47), (47, .iinc 3 1, 3, 50), (50, .goto (-43), 3, 53), (53, .return_, 1, 54)]
theorem dt_Contest_letIn_0 : ev_dall m_Contest_letIn tb_Contest_letIn_0 := by decide +kernel
def tb_Conditions_pass_0 : ev_tab := [(0, .iconst 0, 1, 1), (1, .istore_n 2, 1, 2), (2, .iload_n 2, 1, 3), (3, .aload_n 0, 1, 4), (4, .getfield 21, 3, 7), (7, .if_icmp .ge 37, 3, 10), (10, .aload_n 1, 1, 11), (11, .aload_n 0, 1, 12), (12, .getfield 9, 3, 15), (15, .iload_n 2, 1, 16), (16, .iaload, 1, 17), (17, .iaload, 1, 18), (18, .aload_n 0, 1, 19), (19, .getfield 15, 3, 22), (22, .iload_n 2, 1, 23), (23, .iaload, 1, 24), (24, .aload_n 0, 1, 25), (25, .getfield 18, 3, 28), (28, .iload_n 2, 1, 29), (29, .iaload, 1, 30), (30, .invokestatic 32, 3, 33), (33, .ifCond .ne 5, 3, 36), (36, .iconst 0, 1, 37), (37, .ireturn, 1, 38), (38, .iinc 2 1, 3, 41), (41, .goto (-39), 3, 44), (44, .iconst 1, 1, 45), (45, .ireturn, 1, 46)]
theorem dt_Conditions_pass_0 : ev_dall m_Conditions_pass tb_Conditions_pass_0 := by decide +kernel
def tb_Conditions_holds_0 : ev_tab := [(0, .iload_n 1, 1, 1), (1, .tableswitch 90 0 4 #[35, 46, 57, 68, 79], 35, 36), (36, .iload_n 0, 1, 37), (37, .iload_n 2, 1, 38), (38, .if_icmp .ne 7, 3, 41), (41, .iconst 1, 1, 42), (42, .goto 4, 3, 45), (45, .iconst 0, 1, 46), (46, .ireturn, 1, 47), (47, .iload_n 0, 1, 48), (48, .iload_n 2, 1, 49), (49, .if_icmp .eq 7, 3, 52), (52, .iconst 1, 1, 53), (53, .goto 4, 3, 56), (56, .iconst 0, 1, 57), (57, .ireturn, 1, 58), (58, .iload_n 0, 1, 59), (59, .iload_n 2, 1, 60), (60, .if_icmp .ge 7, 3, 63), (63, .iconst 1, 1, 64), (64, .goto 4, 3, 67), (67, .iconst 0, 1, 68), (68, .ireturn, 1, 69), (69, .iload_n 0, 1, 70), (70, .iload_n 2, 1, 71), (71, .if_icmp .gt 7, 3, 74), (74, .iconst 1, 1, 75), (75, .goto 4, 3, 78), (78, .iconst 0, 1, 79), (79, .ireturn, 1, 80), (80, .iload_n 0, 1, 81), (81, .iload_n 2, 1, 82), (82, .if_icmp .le 7, 3, 85), (85, .iconst 1, 1, 86), (86, .goto 4, 3, 89), (89, .iconst 0, 1, 90), (90, .ireturn, 1, 91), (91, .iload_n 0, 1, 92), (92, .iload_n 2, 1, 93), (93, .if_icmp .lt 7, 3, 96), (96, .iconst 1, 1, 97), (97, .goto 4, 3, 100), (100, .iconst 0, 1, 101), (101, .ireturn, 1, 102)]
theorem dt_Conditions_holds_0 : ev_dall m_Conditions_holds tb_Conditions_holds_0 := by decide +kernel
def tb_Contest_isIn_0 : ev_tab := [(0, .iload_n 0, 1, 1), (1, .iload_n 1, 1, 2), (2, .ishr, 1, 3), (3, .iconst 1, 1, 4), (4, .iand, 1, 5), (5, .iconst 1, 1, 6), (6, .if_icmp .ne 7, 3, 9), (9, .iconst 1, 1, 10), (10, .goto 4, 3, 13), (13, .iconst 0, 1, 14), (14, .ireturn, 1, 15)]
theorem dt_Contest_isIn_0 : ev_dall m_Contest_isIn tb_Contest_isIn_0 := by decide +kernel
def tb_Order_says_0 : ev_tab := [(0, .aload_n 1, 1, 1), (1, .aload_n 0, 1, 2), (2, .getfield 9, 3, 5), (5, .iaload, 1, 6), (6, .istore_n 3, 1, 7), (7, .aload_n 2, 1, 8), (8, .aload_n 0, 1, 9), (9, .getfield 9, 3, 12), (12, .iaload, 1, 13), (13, .istore 4, 2, 15), (15, .iload_n 3, 1, 16), (16, .iload 4, 2, 18), (18, .if_icmp .ne 5, 3, 21), (21, .iconst 3, 1, 22), (22, .ireturn, 1, 23), (23, .aload_n 0, 1, 24), (24, .iload_n 3, 1, 25), (25, .iload 4, 2, 27), (27, .invokevirtual 15, 3, 30), (30, .ifCond .eq 5, 3, 33), (33, .iconst 1, 1, 34), (34, .ireturn, 1, 35), (35, .aload_n 0, 1, 36), (36, .iload 4, 2, 38), (38, .iload_n 3, 1, 39), (39, .invokevirtual 15, 3, 42), (42, .ifCond .eq 7, 3, 45), (45, .iconst 2, 1, 46), (46, .goto 4, 3, 49), (49, .iconst 0, 1, 50), (50, .ireturn, 1, 51)]
theorem dt_Order_says_0 : ev_dall m_Order_says tb_Order_says_0 := by decide +kernel
def tb_Graph_prefers_0 : ev_tab := [(0, .iload_n 1, 1, 1), (1, .invokestatic 18, 3, 4), (4, .ifCond .eq 23, 3, 7), (7, .iload_n 2, 1, 8), (8, .invokestatic 18, 3, 11), (11, .ifCond .eq 16, 3, 14), (14, .aload_n 0, 1, 15), (15, .iload_n 1, 1, 16), (16, .iload_n 2, 1, 17), (17, .invokevirtual 22, 3, 20), (20, .ifCond .eq 7, 3, 23), (23, .iconst 1, 1, 24), (24, .goto 4, 3, 27), (27, .iconst 0, 1, 28), (28, .ireturn, 1, 29)]
theorem dt_Graph_prefers_0 : ev_dall m_Graph_prefers tb_Graph_prefers_0 := by decide +kernel
def tb_Graph_leads_0 : ev_tab := [(0, .aload_n 0, 1, 1), (1, .getfield 15, 3, 4), (4, .iload_n 1, 1, 5), (5, .iaload, 1, 6), (6, .iload_n 2, 1, 7), (7, .ishr, 1, 8), (8, .iconst 1, 1, 9), (9, .iand, 1, 10), (10, .iconst 1, 1, 11), (11, .if_icmp .ne 7, 3, 14), (14, .iconst 1, 1, 15), (15, .goto 4, 3, 18), (18, .iconst 0, 1, 19), (19, .ireturn, 1, 20)]
theorem dt_Graph_leads_0 : ev_dall m_Graph_leads tb_Graph_leads_0 := by decide +kernel
def tb_Layers_prefers_0 : ev_tab := [(0, .aload_n 0, 1, 1), (1, .iload_n 1, 1, 2), (2, .invokevirtual 15, 3, 5), (5, .istore_n 3, 1, 6), (6, .aload_n 0, 1, 7), (7, .iload_n 2, 1, 8), (8, .invokevirtual 15, 3, 11), (11, .istore 4, 2, 13), (13, .iload_n 3, 1, 14), (14, .iconst (-1), 1, 15), (15, .if_icmp .eq 19, 3, 18), (18, .iload 4, 2, 20), (20, .iconst (-1), 1, 21), (21, .if_icmp .eq 9, 3, 24), (24, .iload 4, 2, 26), (26, .iload_n 3, 1, 27), (27, .if_icmp .le 7, 3, 30), (30, .iconst 1, 1, 31), (31, .goto 4, 3, 34), (34, .iconst 0, 1, 35), (35, .ireturn, 1, 36)]
theorem dt_Layers_prefers_0 : ev_dall m_Layers_prefers tb_Layers_prefers_0 := by decide +kernel
def tb_Layers_find_0 : ev_tab := [(0, .iload_n 1, 1, 1), (1, .invokestatic 19, 3, 4), (4, .ifCond .eq 12, 3, 7), (7, .aload_n 0, 1, 8), (8, .getfield 9, 3, 11), (11, .iload_n 1, 1, 12), (12, .iaload, 1, 13), (13, .goto 4, 3, 16), (16, .iconst (-1), 1, 17), (17, .ireturn, 1, 18)]
theorem dt_Layers_find_0 : ev_dall m_Layers_find tb_Layers_find_0 := by decide +kernel
def tb_ValueOrder_prefers_0 : ev_tab := [(0, .aload_n 0, 1, 1), (1, .getfield 18, 3, 4), (4, .lookupswitch 50 #[(0, 28), (1, 39)], 28, 32), (32, .iload_n 1, 1, 33), (33, .iload_n 2, 1, 34), (34, .if_icmp .ge 7, 3, 37), (37, .iconst 1, 1, 38), (38, .goto 4, 3, 41), (41, .iconst 0, 1, 42), (42, .ireturn, 1, 43), (43, .iload_n 1, 1, 44), (44, .iload_n 2, 1, 45), (45, .if_icmp .le 7, 3, 48), (48, .iconst 1, 1, 49), (49, .goto 4, 3, 52), (52, .iconst 0, 1, 53), (53, .ireturn, 1, 54), (54, .aload_n 0, 1, 55), (55, .iload_n 1, 1, 56), (56, .invokevirtual 21, 3, 59), (59, .aload_n 0, 1, 60), (60, .iload_n 2, 1, 61), (61, .invokevirtual 21, 3, 64), (64, .lcmp, 1, 65), (65, .ifCond .ge 7, 3, 68), (68, .iconst 1, 1, 69), (69, .goto 4, 3, 72), (72, .iconst 0, 1, 73), (73, .ireturn, 1, 74)]
theorem dt_ValueOrder_prefers_0 : ev_dall m_ValueOrder_prefers tb_ValueOrder_prefers_0 := by decide +kernel
def tb_ValueOrder_distance_0 : ev_tab := [(0, .iload_n 1, 1, 1), (1, .aload_n 0, 1, 2), (2, .getfield 9, 3, 5), (5, .if_icmp .ge 12, 3, 8), (8, .aload_n 0, 1, 9), (9, .getfield 9, 3, 12), (12, .i2l, 1, 13), (13, .iload_n 1, 1, 14), (14, .i2l, 1, 15), (15, .lsub, 1, 16), (16, .lreturn, 1, 17), (17, .iload_n 1, 1, 18), (18, .aload_n 0, 1, 19), (19, .getfield 15, 3, 22), (22, .if_icmp .le 14, 3, 25), (25, .iload_n 1, 1, 26), (26, .i2l, 1, 27), (27, .aload_n 0, 1, 28), (28, .getfield 15, 3, 31), (31, .i2l, 1, 32), (32, .lsub, 1, 33), (33, .goto 4, 3, 36), (36, .lconst 0, 1, 37), (37, .lreturn, 1, 38)]
theorem dt_ValueOrder_distance_0 : ev_dall m_ValueOrder_distance tb_ValueOrder_distance_0 := by decide +kernel
def tb_Term_says_0 : ev_tab := [(0, .aload_n 0, 1, 1), (1, .getfield 19, 3, 4), (4, .aload_n 1, 1, 5), (5, .aload_n 2, 1, 6), (6, .invokevirtual 29, 3, 9), (9, .istore_n 3, 1, 10), (10, .aload_n 0, 1, 11), (11, .getfield 33, 3, 14), (14, .bipush 9, 2, 16), (16, .if_icmp .ne 8, 3, 19), (19, .iload_n 3, 1, 20), (20, .invokestatic 36, 3, 23), (23, .ireturn, 1, 24), (24, .aload_n 0, 1, 25), (25, .getfield 33, 3, 28), (28, .bipush 7, 2, 30), (30, .if_icmp .ne 22, 3, 33), (33, .iload_n 3, 1, 34), (34, .iconst 3, 1, 35), (35, .if_icmp .ne 15, 3, 38), (38, .aload_n 0, 1, 39), (39, .getfield 23, 3, 42), (42, .aload_n 1, 1, 43), (43, .aload_n 2, 1, 44), (44, .invokevirtual 29, 3, 47), (47, .goto 4, 3, 50), (50, .iload_n 3, 1, 51), (51, .ireturn, 1, 52), (52, .aload_n 0, 1, 53), (53, .getfield 23, 3, 56), (56, .aload_n 1, 1, 57), (57, .aload_n 2, 1, 58), (58, .invokevirtual 29, 3, 61), (61, .istore 4, 2, 63), (63, .iload_n 3, 1, 64), (64, .iload 4, 2, 66), (66, .if_icmp .ne 5, 3, 69), (69, .iload_n 3, 1, 70), (70, .ireturn, 1, 71), (71, .aload_n 0, 1, 72), (72, .getfield 33, 3, 75), (75, .bipush 6, 2, 77), (77, .if_icmp .ne 12, 3, 80), (80, .iload_n 3, 1, 81), (81, .iload 4, 2, 83), (83, .invokestatic 40, 3, 86), (86, .goto 4, 3, 89), (89, .iconst 0, 1, 90), (90, .ireturn, 1, 91)]
theorem dt_Term_says_0 : ev_dall m_Term_says tb_Term_says_0 := by decide +kernel
def tb_Term_changedOver_0 : ev_tab := [(0, .iload_n 0, 1, 1), (1, .iconst 1, 1, 2), (2, .if_icmp .ne 5, 3, 5), (5, .iconst 2, 1, 6), (6, .ireturn, 1, 7), (7, .iload_n 0, 1, 8), (8, .iconst 2, 1, 9), (9, .if_icmp .ne 7, 3, 12), (12, .iconst 1, 1, 13), (13, .goto 4, 3, 16), (16, .iload_n 0, 1, 17), (17, .ireturn, 1, 18)]
theorem dt_Term_changedOver_0 : ev_dall m_Term_changedOver tb_Term_changedOver_0 := by decide +kernel
def tb_Term_paretoOf_0 : ev_tab := [(0, .iload_n 0, 1, 1), (1, .iconst 3, 1, 2), (2, .if_icmp .ne 5, 3, 5), (5, .iload_n 1, 1, 6), (6, .ireturn, 1, 7), (7, .iload_n 1, 1, 8), (8, .iconst 3, 1, 9), (9, .if_icmp .ne 7, 3, 12), (12, .iload_n 0, 1, 13), (13, .goto 4, 3, 16), (16, .iconst 0, 1, 17), (17, .ireturn, 1, 18)]
theorem dt_Term_paretoOf_0 : ev_dall m_Term_paretoOf tb_Term_paretoOf_0 := by decide +kernel
def tb_Contest_note_0 : ev_tab := [(0, .iload_n 3, 1, 1), (1, .iconst 1, 1, 2), (2, .if_icmp .ne 18, 3, 5), (5, .aload_n 0, 1, 6), (6, .getfield 9, 3, 9), (9, .iload_n 2, 1, 10), (10, .dup2, 1, 11), (11, .iaload, 1, 12), (12, .iconst 1, 1, 13), (13, .iload_n 1, 1, 14), (14, .ishl, 1, 15), (15, .ior, 1, 16), (16, .iastore, 1, 17), (17, .goto 20, 3, 20), (20, .iload_n 3, 1, 21), (21, .iconst 2, 1, 22), (22, .if_icmp .ne 15, 3, 25), (25, .aload_n 0, 1, 26), (26, .getfield 9, 3, 29), (29, .iload_n 1, 1, 30), (30, .dup2, 1, 31), (31, .iaload, 1, 32), (32, .iconst 1, 1, 33), (33, .iload_n 2, 1, 34), (34, .ishl, 1, 35), (35, .ior, 1, 36), (36, .iastore, 1, 37), (37, .return_, 1, 38)]
theorem dt_Contest_note_0 : ev_dall m_Contest_note tb_Contest_note_0 := by decide +kernel
def tb_Contest_listUnbeaten_0 : ev_tab := [(0, .aload_n 2, 1, 1), (1, .invokevirtual 55, 3, 4), (4, .iconst 0, 1, 5), (5, .istore_n 3, 1, 6), (6, .iload_n 3, 1, 7), (7, .aload_n 1, 1, 8), (8, .getfield 26, 3, 11), (11, .if_icmp .ge 39, 3, 14), (14, .aload_n 0, 1, 15), (15, .getfield 18, 3, 18), (18, .iload_n 3, 1, 19), (19, .invokestatic 31, 3, 22), (22, .ifCond .eq 22, 3, 25), (25, .aload_n 0, 1, 26), (26, .getfield 9, 3, 29), (29, .iload_n 3, 1, 30), (30, .iaload, 1, 31), (31, .ifCond .ne 13, 3, 34), (34, .aload_n 2, 1, 35), (35, .aload_n 1, 1, 36), (36, .getfield 60, 3, 39), (39, .iload_n 3, 1, 40), (40, .iaload, 1, 41), (41, .invokevirtual 63, 3, 44), (44, .iinc 3 1, 3, 47), (47, .goto (-41), 3, 50), (50, .return_, 1, 51)]
theorem dt_Contest_listUnbeaten_0 : ev_dall m_Contest_listUnbeaten tb_Contest_listUnbeaten_0 := by decide +kernel
def tb_RowList_clear_0 : ev_tab := [(0, .aload_n 0, 1, 1), (1, .iconst 0, 1, 2), (2, .putfield 15, 3, 5), (5, .return_, 1, 6)]
theorem dt_RowList_clear_0 : ev_dall m_RowList_clear tb_RowList_clear_0 := by decide +kernel
def tb_RowList_add_0 : ev_tab := [(0, .aload_n 0, 1, 1), (1, .getfield 9, 3, 4), (4, .aload_n 0, 1, 5), (5, .getfield 15, 3, 8), (8, .iload_n 1, 1, 9), (9, .iastore, 1, 10), (10, .aload_n 0, 1, 11), (11, .dup, 1, 12), (12, .getfield 15, 3, 15), (15, .iconst 1, 1, 16), (16, .iadd, 1, 17), (17, .putfield 15, 3, 20), (20, .return_, 1, 21)]
theorem dt_RowList_add_0 : ev_dall m_RowList_add tb_RowList_add_0 := by decide +kernel
def tb_PT_read_0 : ev_tab := [(0, .aload_n 0, 1, 1), (1, .iload_n 1, 1, 2), (2, .invokevirtual 224, 3, 5), (5, .ifCond .ne 5, 3, 8), (8, .iconst 0, 1, 9), (9, .ireturn, 1, 10), (10, .aload_n 0, 1, 11), (11, .aload_n 0, 1, 12), (12, .getfield 52, 3, 15), (15, .iload_n 1, 1, 16), (16, .aaload, 1, 17), (17, .invokevirtual 217, 3, 20), (20, .iconst 1, 1, 21), (21, .ireturn, 1, 22)]
theorem dt_PT_read_0 : ev_dall m_PT_read tb_PT_read_0 := by decide +kernel
def tb_PT_markRead_0 : ev_tab := [(0, .aload_n 0, 1, 1), (1, .aload_n 1, 1, 2), (2, .invokevirtual 227, 3, 5), (5, .aload_n 1, 1, 6), (6, .getfield 230, 3, 9), (9, .aload_n 1, 1, 10), (10, .getfield 221, 3, 13), (13, .invokevirtual 278, 3, 16), (16, .return_, 1, 17)]
theorem dt_PT_markRead_0 : ev_dall m_PT_markRead tb_PT_markRead_0 := by decide +kernel
def tb_RowList_copyFrom_0 : ev_tab := [(0, .aload_n 1, 1, 1), (1, .getfield 9, 3, 4), (4, .iconst 0, 1, 5), (5, .aload_n 0, 1, 6), (6, .getfield 9, 3, 9), (9, .iconst 0, 1, 10), (10, .aload_n 1, 1, 11), (11, .getfield 15, 3, 14), (14, .invokestatic 19, 3, 17), (17, .aload_n 0, 1, 18), (18, .aload_n 1, 1, 19), (19, .getfield 15, 3, 22), (22, .putfield 15, 3, 25), (25, .return_, 1, 26)]
theorem dt_RowList_copyFrom_0 : ev_dall m_RowList_copyFrom tb_RowList_copyFrom_0 := by decide +kernel
def tb_PT_row_0 : ev_tab := [(0, .aload_n 0, 1, 1), (1, .getfield 12, 3, 4), (4, .invokevirtual 67, 3, 7), (7, .ifCond .eq 13, 3, 10), (10, .new 71, 3, 13), (13, .dup, 1, 14), (14, .ldc 73, 2, 16), (16, .invokespecial 75, 3, 19), (19, .athrow, 1, 20), (20, .aload_n 0, 1, 21), (21, .dup, 1, 22), (22, .getfield 56, 3, 25), (25, .iconst 1, 1, 26), (26, .iadd, 1, 27), (27, .putfield 56, 3, 30), (30, .aload_n 0, 1, 31), (31, .getfield 12, 3, 34), (34, .iload_n 1, 1, 35), (35, .iload_n 2, 1, 36), (36, .iload_n 3, 1, 37), (37, .iload 4, 2, 39), (39, .invokevirtual 78, 3, 42), (42, .ireturn, 1, 43)]
theorem dt_PT_row_0 : ev_dall m_PT_row tb_PT_row_0 := by decide +kernel
def tb_Rows_isFull_0 : ev_tab := [(0, .aload_n 0, 1, 1), (1, .getfield 20, 3, 4), (4, .bipush 24, 2, 6), (6, .if_icmp .eq 12, 3, 9), (9, .aload_n 0, 1, 10), (10, .getfield 24, 3, 13), (13, .bipush 120, 2, 15), (15, .if_icmp .ne 7, 3, 18), (18, .iconst 1, 1, 19), (19, .goto 4, 3, 22), (22, .iconst 0, 1, 23), (23, .ireturn, 1, 24)]
theorem dt_Rows_isFull_0 : ev_dall m_Rows_isFull tb_Rows_isFull_0 := by decide +kernel
def tb_Rows_add_0 : ev_tab := [(0, .aload_n 0, 1, 1), (1, .getfield 24, 3, 4), (4, .istore 5, 2, 6), (6, .aload_n 0, 1, 7), (7, .getfield 9, 3, 10), (10, .aload_n 0, 1, 11), (11, .getfield 20, 3, 14), (14, .iload 5, 2, 16), (16, .iastore, 1, 17), (17, .aload_n 0, 1, 18), (18, .getfield 17, 3, 21), (21, .aload_n 0, 1, 22), (22, .getfield 20, 3, 25), (25, .aaload, 1, 26), (26, .iconst 0, 1, 27), (27, .iload_n 1, 1, 28), (28, .iastore, 1, 29), (29, .aload_n 0, 1, 30), (30, .getfield 17, 3, 33), (33, .aload_n 0, 1, 34), (34, .getfield 20, 3, 37), (37, .aaload, 1, 38), (38, .iconst 1, 1, 39), (39, .iload_n 2, 1, 40), (40, .iastore, 1, 41), (41, .aload_n 0, 1, 42), (42, .getfield 17, 3, 45), (45, .aload_n 0, 1, 46), (46, .getfield 20, 3, 49), (49, .aaload, 1, 50), (50, .iconst 2, 1, 51), (51, .iload_n 3, 1, 52), (52, .iastore, 1, 53), (53, .aload_n 0, 1, 54), (54, .getfield 17, 3, 57), (57, .aload_n 0, 1, 58), (58, .getfield 20, 3, 61), (61, .aaload, 1, 62), (62, .iconst 3, 1, 63), (63, .iload 4, 2, 65), (65, .iastore, 1, 66), (66, .aload_n 0, 1, 67), (67, .dup, 1, 68), (68, .getfield 20, 3, 71), (71, .iconst 1, 1, 72), (72, .iadd, 1, 73), (73, .putfield 20, 3, 76), (76, .aload_n 0, 1, 77), (77, .dup, 1, 78), (78, .getfield 24, 3, 81), (81, .iconst 1, 1, 82), (82, .iadd, 1, 83), (83, .putfield 24, 3, 86), (86, .iload 5, 2, 88), (88, .ireturn, 1, 89)]
theorem dt_Rows_add_0 : ev_dall m_Rows_add tb_Rows_add_0 := by decide +kernel
def tb_PT_value_0 : ev_tab := [(0, .aload_n 0, 1, 1), (1, .getfield 12, 3, 4), (4, .iload_n 1, 1, 5), (5, .invokevirtual 82, 3, 8), (8, .istore_n 3, 1, 9), (9, .iload_n 3, 1, 10), (10, .iconst (-1), 1, 11), (11, .if_icmp .eq 10, 3, 14), (14, .iload_n 2, 1, 15), (15, .invokestatic 86, 3, 18), (18, .ifCond .ne 13, 3, 21), (21, .new 98, 3, 24), (24, .dup, 1, 25), (25, .ldc 100, 2, 27), (27, .invokespecial 102, 3, 30), (30, .athrow, 1, 31), (31, .aload_n 0, 1, 32), (32, .getfield 12, 3, 35), (35, .getfield 90, 3, 38), (38, .iload_n 3, 1, 39), (39, .aaload, 1, 40), (40, .iload_n 2, 1, 41), (41, .iaload, 1, 42), (42, .ireturn, 1, 43)]
theorem dt_PT_value_0 : ev_dall m_PT_value tb_PT_value_0 := by decide +kernel
def tb_PT_order_0 : ev_tab := [(0, .iload_n 1, 1, 1), (1, .ifCond .lt 26, 3, 4), (4, .iload_n 1, 1, 5), (5, .iconst 5, 1, 6), (6, .if_icmp .gt 21, 3, 9), (9, .iload_n 2, 1, 10), (10, .invokestatic 86, 3, 13), (13, .ifCond .eq 14, 3, 16), (16, .iload_n 1, 1, 17), (17, .iconst 3, 1, 18), (18, .if_icmp .ne 19, 3, 21), (21, .iload_n 3, 1, 22), (22, .iload 4, 2, 24), (24, .if_icmp .le 13, 3, 27), (27, .new 103, 3, 30), (30, .dup, 1, 31), (31, .ldc 105, 2, 33), (33, .invokespecial 107, 3, 36), (36, .athrow, 1, 37), (37, .aload_n 0, 1, 38), (38, .getfield 22, 3, 41), (41, .bipush 24, 2, 43), (43, .if_icmp .ne 13, 3, 46), (46, .new 71, 3, 49), (49, .dup, 1, 50), (50, .ldc 108, 2, 52), (52, .invokespecial 75, 3, 55), (55, .athrow, 1, 56), (56, .aload_n 0, 1, 57), (57, .aload_n 0, 1, 58), (58, .iload_n 1, 1, 59), (59, .iload_n 2, 1, 60), (60, .iload_n 3, 1, 61), (61, .iload 4, 2, 63), (63, .invokevirtual 110, 3, 66), (66, .invokevirtual 114, 3, 69), (69, .ireturn, 1, 70)]
theorem dt_PT_order_0 : ev_dall m_PT_order tb_PT_order_0 := by decide +kernel
def tb_PT_newOrder_0 : ev_tab := [(0, .iload_n 1, 1, 1), (1, .lookupswitch 53 #[(4, 27), (5, 40)], 27, 28), (28, .new 124, 3, 31), (31, .dup, 1, 32), (32, .aload_n 0, 1, 33), (33, .getfield 22, 3, 36), (36, .iload_n 2, 1, 37), (37, .invokespecial 243, 3, 40), (40, .areturn, 1, 41), (41, .new 131, 3, 44), (44, .dup, 1, 45), (45, .aload_n 0, 1, 46), (46, .getfield 22, 3, 49), (49, .iload_n 2, 1, 50), (50, .invokespecial 246, 3, 53), (53, .areturn, 1, 54), (54, .new 247, 3, 57), (57, .dup, 1, 58), (58, .iload_n 1, 1, 59), (59, .aload_n 0, 1, 60), (60, .getfield 22, 3, 63), (63, .iload_n 2, 1, 64), (64, .iload_n 3, 1, 65), (65, .iload_n 1, 1, 66), (66, .iconst 2, 1, 67), (67, .if_icmp .ne 7, 3, 70), (70, .iload_n 3, 1, 71), (71, .goto 5, 3, 74), (74, .iload 4, 2, 76), (76, .invokespecial 249, 3, 79), (79, .areturn, 1, 80)]
theorem dt_PT_newOrder_0 : ev_dall m_PT_newOrder tb_PT_newOrder_0 := by decide +kernel
def tb_Layers_init_0 : ev_tab := [(0, .aload_n 0, 1, 1), (1, .iconst 4, 1, 2), (2, .iload_n 1, 1, 3), (3, .iload_n 2, 1, 4), (4, .invokespecial 3, 3, 7), (7, .aload_n 0, 1, 8), (8, .bipush 10, 2, 10), (10, .newarray .int, 2, 12), (12, .putfield 9, 3, 15), (15, .iconst 0, 1, 16), (16, .istore_n 3, 1, 17), (17, .iload_n 3, 1, 18), (18, .bipush 10, 2, 20), (20, .if_icmp .ge 16, 3, 23), (23, .aload_n 0, 1, 24), (24, .getfield 9, 3, 27), (27, .iload_n 3, 1, 28), (28, .iconst (-1), 1, 29), (29, .iastore, 1, 30), (30, .iinc 3 1, 3, 33), (33, .goto (-16), 3, 36), (36, .return_, 1, 37)]
theorem dt_Layers_init_0 : ev_dall m_Layers_init tb_Layers_init_0 := by decide +kernel
def tb_Order_init_0 : ev_tab := [(0, .aload_n 0, 1, 1), (1, .iload_n 1, 1, 2), (2, .iload_n 2, 1, 3), (3, .iconst 1, 1, 4), (4, .iconst 1, 1, 5), (5, .iload_n 3, 1, 6), (6, .ishl, 1, 7), (7, .invokespecial 3, 3, 10), (10, .aload_n 0, 1, 11), (11, .iload_n 3, 1, 12), (12, .putfield 9, 3, 15), (15, .return_, 1, 16)]
theorem dt_Order_init_0 : ev_dall m_Order_init tb_Order_init_0 := by decide +kernel
def tb_Node_init_0 : ev_tab := [(0, .aload_n 0, 1, 1), (1, .invokespecial 1, 3, 4), (4, .aload_n 0, 1, 5), (5, .iload_n 1, 1, 6), (6, .putfield 7, 3, 9), (9, .aload_n 0, 1, 10), (10, .iload_n 2, 1, 11), (11, .putfield 13, 3, 14), (14, .aload_n 0, 1, 15), (15, .iload_n 3, 1, 16), (16, .putfield 16, 3, 19), (19, .aload_n 0, 1, 20), (20, .iload 4, 2, 22), (22, .putfield 19, 3, 25), (25, .return_, 1, 26)]
theorem dt_Node_init_0 : ev_dall m_Node_init tb_Node_init_0 := by decide +kernel
def tb_Graph_init_0 : ev_tab := [(0, .aload_n 0, 1, 1), (1, .iconst 5, 1, 2), (2, .iload_n 1, 1, 3), (3, .iload_n 2, 1, 4), (4, .invokespecial 3, 3, 7), (7, .aload_n 0, 1, 8), (8, .bipush 10, 2, 10), (10, .newarray .int, 2, 12), (12, .putfield 9, 3, 15), (15, .aload_n 0, 1, 16), (16, .bipush 10, 2, 18), (18, .newarray .int, 2, 20), (20, .putfield 15, 3, 23), (23, .return_, 1, 24)]
theorem dt_Graph_init_0 : ev_dall m_Graph_init tb_Graph_init_0 := by decide +kernel
def tb_ValueOrder_init_0 : ev_tab := [(0, .aload_n 0, 1, 1), (1, .iload_n 1, 1, 2), (2, .iload_n 2, 1, 3), (3, .iload_n 3, 1, 4), (4, .invokespecial 3, 3, 7), (7, .aload_n 0, 1, 8), (8, .iload 4, 2, 10), (10, .putfield 9, 3, 13), (13, .aload_n 0, 1, 14), (14, .iload 5, 2, 16), (16, .putfield 15, 3, 19), (19, .return_, 1, 20)]
theorem dt_ValueOrder_init_0 : ev_dall m_ValueOrder_init tb_ValueOrder_init_0 := by decide +kernel
def tb_PT_addNode_0 : ev_tab := [(0, .aload_n 0, 1, 1), (1, .getfield 18, 3, 4), (4, .aload_n 0, 1, 5), (5, .getfield 22, 3, 8), (8, .aload_n 1, 1, 9), (9, .aastore, 1, 10), (10, .aload_n 0, 1, 11), (11, .dup, 1, 12), (12, .getfield 22, 3, 15), (15, .iconst 1, 1, 16), (16, .iadd, 1, 17), (17, .putfield 22, 3, 20), (20, .aload_n 1, 1, 21), (21, .getfield 252, 3, 24), (24, .ireturn, 1, 25)]
theorem dt_PT_addNode_0 : ev_dall m_PT_addNode tb_PT_addNode_0 := by decide +kernel
def tb_PT_edge_0 : ev_tab := [(0, .aload_n 0, 1, 1), (1, .iload_n 1, 1, 2), (2, .invokevirtual 118, 3, 5), (5, .ifCond .eq 17, 3, 8), (8, .iload_n 2, 1, 9), (9, .invokestatic 121, 3, 12), (12, .ifCond .eq 10, 3, 15), (15, .iload_n 3, 1, 16), (16, .invokestatic 121, 3, 19), (19, .ifCond .ne 13, 3, 22), (22, .new 103, 3, 25), (25, .dup, 1, 26), (26, .ldc 129, 2, 28), (28, .invokespecial 107, 3, 31), (31, .athrow, 1, 32), (32, .aload_n 0, 1, 33), (33, .getfield 18, 3, 36), (36, .iload_n 1, 1, 37), (37, .aaload, 1, 38), (38, .astore 5, 2, 40), (40, .aload 5, 2, 42), (42, .instanceof 131, 3, 45), (45, .ifCond .eq 19, 3, 48), (48, .aload 5, 2, 50), (50, .checkcast 131, 3, 53), (53, .astore 4, 2, 55), (55, .aload_n 0, 1, 56), (56, .aload 4, 2, 58), (58, .iload_n 2, 1, 59), (59, .iload_n 3, 1, 60), (60, .invokevirtual 133, 3, 63), (63, .ireturn, 1, 64), (64, .new 103, 3, 67), (67, .dup, 1, 68), (68, .ldc 137, 2, 70), (70, .invokespecial 107, 3, 73), (73, .athrow, 1, 74)]
theorem dt_PT_edge_0 : ev_dall m_PT_edge tb_PT_edge_0 := by decide +kernel
def tb_PT_addEdge_0 : ev_tab := [(0, .iload_n 2, 1, 1), (1, .iload_n 3, 1, 2), (2, .if_icmp .eq 12, 3, 5), (5, .aload_n 1, 1, 6), (6, .iload_n 3, 1, 7), (7, .iload_n 2, 1, 8), (8, .invokevirtual 255, 3, 11), (11, .ifCond .eq 14, 3, 14), (14, .new 71, 3, 17), (17, .dup, 1, 18), (18, .ldc_w 259, 3, 21), (21, .invokespecial 75, 3, 24), (24, .athrow, 1, 25), (25, .aload_n 1, 1, 26), (26, .iload_n 2, 1, 27), (27, .iload_n 3, 1, 28), (28, .invokevirtual 261, 3, 31), (31, .ifCond .eq 5, 3, 34), (34, .iconst 0, 1, 35), (35, .ireturn, 1, 36), (36, .aload_n 1, 1, 37), (37, .iload_n 2, 1, 38), (38, .iload_n 3, 1, 39), (39, .invokevirtual 264, 3, 42), (42, .aload_n 0, 1, 43), (43, .dup, 1, 44), (44, .getfield 56, 3, 47), (47, .iconst 1, 1, 48), (48, .iadd, 1, 49), (49, .putfield 56, 3, 52), (52, .iconst 1, 1, 53), (53, .ireturn, 1, 54)]
theorem dt_PT_addEdge_0 : ev_dall m_PT_addEdge tb_PT_addEdge_0 := by decide +kernel
def tb_Graph_hasEdge_0 : ev_tab := [(0, .aload_n 0, 1, 1), (1, .getfield 9, 3, 4), (4, .iload_n 1, 1, 5), (5, .iaload, 1, 6), (6, .iload_n 2, 1, 7), (7, .ishr, 1, 8), (8, .iconst 1, 1, 9), (9, .iand, 1, 10), (10, .iconst 1, 1, 11), (11, .if_icmp .ne 7, 3, 14), (14, .iconst 1, 1, 15), (15, .goto 4, 3, 18), (18, .iconst 0, 1, 19), (19, .ireturn, 1, 20)]
theorem dt_Graph_hasEdge_0 : ev_dall m_Graph_hasEdge tb_Graph_hasEdge_0 := by decide +kernel
def tb_Graph_join_0 : ev_tab := [(0, .aload_n 0, 1, 1), (1, .getfield 9, 3, 4), (4, .iload_n 1, 1, 5), (5, .dup2, 1, 6), (6, .iaload, 1, 7), (7, .iconst 1, 1, 8), (8, .iload_n 2, 1, 9), (9, .ishl, 1, 10), (10, .ior, 1, 11), (11, .iastore, 1, 12), (12, .iconst 1, 1, 13), (13, .iload_n 2, 1, 14), (14, .ishl, 1, 15), (15, .aload_n 0, 1, 16), (16, .getfield 15, 3, 19), (19, .iload_n 2, 1, 20), (20, .iaload, 1, 21), (21, .ior, 1, 22), (22, .istore_n 3, 1, 23), (23, .iconst 0, 1, 24), (24, .istore 4, 2, 26), (26, .iload 4, 2, 28), (28, .bipush 10, 2, 30), (30, .if_icmp .ge 36, 3, 33), (33, .iload 4, 2, 35), (35, .iload_n 1, 1, 36), (36, .if_icmp .eq 13, 3, 39), (39, .aload_n 0, 1, 40), (40, .iload 4, 2, 42), (42, .iload_n 1, 1, 43), (43, .invokevirtual 22, 3, 46), (46, .ifCond .eq 14, 3, 49), (49, .aload_n 0, 1, 50), (50, .getfield 15, 3, 53), (53, .iload 4, 2, 55), (55, .dup2, 1, 56), (56, .iaload, 1, 57), (57, .iload_n 3, 1, 58), (58, .ior, 1, 59), (59, .iastore, 1, 60), (60, .iinc 4 1, 3, 63), (63, .goto (-37), 3, 66), (66, .return_, 1, 67)]
theorem dt_Graph_join_0 : ev_dall m_Graph_join tb_Graph_join_0 := by decide +kernel
def tb_PT_term_0 : ev_tab := [(0, .iload_n 1, 1, 1), (1, .bipush 6, 2, 3), (3, .if_icmp .lt 31, 3, 6), (6, .iload_n 1, 1, 7), (7, .bipush 9, 2, 9), (9, .if_icmp .gt 25, 3, 12), (12, .aload_n 0, 1, 13), (13, .iload_n 2, 1, 14), (14, .invokevirtual 118, 3, 17), (17, .ifCond .eq 17, 3, 20), (20, .iload_n 1, 1, 21), (21, .bipush 9, 2, 23), (23, .if_icmp .eq 21, 3, 26), (26, .aload_n 0, 1, 27), (27, .iload_n 3, 1, 28), (28, .invokevirtual 118, 3, 31), (31, .ifCond .ne 13, 3, 34), (34, .new 103, 3, 37), (37, .dup, 1, 38), (38, .ldc 139, 2, 40), (40, .invokespecial 107, 3, 43), (43, .athrow, 1, 44), (44, .aload_n 0, 1, 45), (45, .getfield 18, 3, 48), (48, .iload_n 2, 1, 49), (49, .aaload, 1, 50), (50, .astore 4, 2, 52), (52, .iload_n 1, 1, 53), (53, .bipush 9, 2, 55), (55, .if_icmp .ne 8, 3, 58), (58, .aload 4, 2, 60), (60, .goto 9, 3, 63), (63, .aload_n 0, 1, 64), (64, .getfield 18, 3, 67), (67, .iload_n 3, 1, 68), (68, .aaload, 1, 69), (69, .astore 5, 2, 71), (71, .aload_n 0, 1, 72), (72, .getfield 22, 3, 75), (75, .bipush 24, 2, 77), (77, .if_icmp .eq 16, 3, 80), (80, .iload_n 1, 1, 81), (81, .aload 4, 2, 83), (83, .aload 5, 2, 85), (85, .invokestatic 141, 3, 88), (88, .bipush 40, 2, 90), (90, .if_icmp .le 13, 3, 93), (93, .new 71, 3, 96), (96, .dup, 1, 97), (97, .ldc 147, 2, 99), (99, .invokespecial 75, 3, 102), (102, .athrow, 1, 103), (103, .aload_n 0, 1, 104), (104, .new 142, 3, 107), (107, .dup, 1, 108), (108, .iload_n 1, 1, 109), (109, .aload_n 0, 1, 110), (110, .getfield 22, 3, 113), (113, .aload 4, 2, 115), (115, .aload 5, 2, 117)]
theorem dt_PT_term_0 : ev_dall m_PT_term tb_PT_term_0 := by decide +kernel
def tb_PT_term_1 : ev_tab := [(117, .invokespecial 149, 3, 120), (120, .invokevirtual 114, 3, 123), (123, .ireturn, 1, 124)]
theorem dt_PT_term_1 : ev_dall m_PT_term tb_PT_term_1 := by decide +kernel
def tb_Term_sizeOf_0 : ev_tab := [(0, .iload_n 0, 1, 1), (1, .bipush 9, 2, 3), (3, .if_icmp .ne 12, 3, 6), (6, .iconst 1, 1, 7), (7, .aload_n 1, 1, 8), (8, .getfield 26, 3, 11), (11, .iadd, 1, 12), (12, .goto 14, 3, 15), (15, .iconst 1, 1, 16), (16, .aload_n 1, 1, 17), (17, .getfield 26, 3, 20), (20, .iadd, 1, 21), (21, .aload_n 2, 1, 22), (22, .getfield 26, 3, 25), (25, .iadd, 1, 26), (26, .ireturn, 1, 27)]
theorem dt_Term_sizeOf_0 : ev_dall m_Term_sizeOf tb_Term_sizeOf_0 := by decide +kernel
def tb_Term_init_0 : ev_tab := [(0, .aload_n 0, 1, 1), (1, .iload_n 1, 1, 2), (2, .iload_n 2, 1, 3), (3, .iload_n 1, 1, 4), (4, .aload_n 3, 1, 5), (5, .aload 4, 2, 7), (7, .invokestatic 3, 3, 10), (10, .aload_n 3, 1, 11), (11, .getfield 9, 3, 14), (14, .aload 4, 2, 16), (16, .getfield 9, 3, 19), (19, .ior, 1, 20), (20, .invokespecial 15, 3, 23), (23, .aload_n 0, 1, 24), (24, .aload_n 3, 1, 25), (25, .putfield 19, 3, 28), (28, .aload_n 0, 1, 29), (29, .aload 4, 2, 31), (31, .putfield 23, 3, 34), (34, .return_, 1, 35)]
theorem dt_Term_init_0 : ev_dall m_Term_init tb_Term_init_0 := by decide +kernel
def tb_PT_condition_0 : ev_tab := [(0, .iload_n 1, 1, 1), (1, .invokestatic 86, 3, 4), (4, .ifCond .eq 13, 3, 7), (7, .iload_n 2, 1, 8), (8, .ifCond .lt 9, 3, 11), (11, .iload_n 2, 1, 12), (12, .bipush 6, 2, 14), (14, .if_icmp .lt 13, 3, 17), (17, .new 103, 3, 20), (20, .dup, 1, 21), (21, .ldc 152, 2, 23), (23, .invokespecial 107, 3, 26), (26, .athrow, 1, 27), (27, .aload_n 0, 1, 28), (28, .getfield 29, 3, 31), (31, .getfield 154, 3, 34), (34, .iconst 4, 1, 35), (35, .if_icmp .ne 13, 3, 38), (38, .new 71, 3, 41), (41, .dup, 1, 42), (42, .ldc 157, 2, 44), (44, .invokespecial 75, 3, 47), (47, .athrow, 1, 48), (48, .aload_n 0, 1, 49), (49, .getfield 29, 3, 52), (52, .iload_n 1, 1, 53), (53, .iload_n 2, 1, 54), (54, .iload_n 3, 1, 55), (55, .invokevirtual 159, 3, 58), (58, .aload_n 0, 1, 59), (59, .getfield 29, 3, 62), (62, .getfield 154, 3, 65), (65, .ireturn, 1, 66)]
theorem dt_PT_condition_0 : ev_dall m_PT_condition tb_PT_condition_0 := by decide +kernel
def tb_Conditions_add_0 : ev_tab := [(0, .aload_n 0, 1, 1), (1, .getfield 9, 3, 4), (4, .aload_n 0, 1, 5), (5, .getfield 21, 3, 8), (8, .iload_n 1, 1, 9), (9, .iastore, 1, 10), (10, .aload_n 0, 1, 11), (11, .getfield 15, 3, 14), (14, .aload_n 0, 1, 15), (15, .getfield 21, 3, 18), (18, .iload_n 2, 1, 19), (19, .iastore, 1, 20), (20, .aload_n 0, 1, 21), (21, .getfield 18, 3, 24), (24, .aload_n 0, 1, 25), (25, .getfield 21, 3, 28), (28, .iload_n 3, 1, 29), (29, .iastore, 1, 30), (30, .aload_n 0, 1, 31), (31, .dup, 1, 32), (32, .getfield 21, 3, 35), (35, .iconst 1, 1, 36), (36, .iadd, 1, 37), (37, .putfield 21, 3, 40), (40, .return_, 1, 41)]
theorem dt_Conditions_add_0 : ev_dall m_Conditions_add tb_Conditions_add_0 := by decide +kernel
def tb_PT_compare_0 : ev_tab := [(0, .aload_n 0, 1, 1), (1, .getfield 12, 3, 4), (4, .iload_n 2, 1, 5), (5, .invokevirtual 82, 3, 8), (8, .istore 4, 2, 10), (10, .aload_n 0, 1, 11), (11, .getfield 12, 3, 14), (14, .iload_n 3, 1, 15), (15, .invokevirtual 82, 3, 18), (18, .istore 5, 2, 20), (20, .aload_n 0, 1, 21), (21, .iload_n 1, 1, 22), (22, .invokevirtual 118, 3, 25), (25, .ifCond .eq 15, 3, 28), (28, .iload 4, 2, 30), (30, .iconst (-1), 1, 31), (31, .if_icmp .eq 9, 3, 34), (34, .iload 5, 2, 36), (36, .iconst (-1), 1, 37), (37, .if_icmp .ne 13, 3, 40), (40, .new 98, 3, 43), (43, .dup, 1, 44), (44, .ldc 165, 2, 46), (46, .invokespecial 102, 3, 49), (49, .athrow, 1, 50), (50, .aload_n 0, 1, 51), (51, .getfield 18, 3, 54), (54, .iload_n 1, 1, 55), (55, .aaload, 1, 56), (56, .aload_n 0, 1, 57), (57, .getfield 12, 3, 60), (60, .getfield 90, 3, 63), (63, .iload 4, 2, 65), (65, .aaload, 1, 66), (66, .aload_n 0, 1, 67), (67, .getfield 12, 3, 70), (70, .getfield 90, 3, 73), (73, .iload 5, 2, 75), (75, .aaload, 1, 76), (76, .invokevirtual 167, 3, 79), (79, .ireturn, 1, 80)]
theorem dt_PT_compare_0 : ev_dall m_PT_compare tb_PT_compare_0 := by decide +kernel
def tb_PT_best_0 : ev_tab := [(0, .aload_n 0, 1, 1), (1, .iload_n 1, 1, 2), (2, .invokevirtual 118, 3, 5), (5, .ifCond .ne 13, 3, 8), (8, .new 98, 3, 11), (11, .dup, 1, 12), (12, .ldc 171, 2, 14), (14, .invokespecial 102, 3, 17), (17, .athrow, 1, 18), (18, .aload_n 0, 1, 19), (19, .getfield 36, 3, 22), (22, .aload_n 0, 1, 23), (23, .getfield 12, 3, 26), (26, .aload_n 0, 1, 27), (27, .getfield 18, 3, 30), (30, .iload_n 1, 1, 31), (31, .aaload, 1, 32), (32, .aload_n 0, 1, 33), (33, .getfield 29, 3, 36), (36, .invokevirtual 173, 3, 39), (39, .aload_n 0, 1, 40), (40, .getfield 36, 3, 43), (43, .aload_n 0, 1, 44), (44, .getfield 12, 3, 47), (47, .aload_n 0, 1, 48), (48, .getfield 43, 3, 51), (51, .invokevirtual 177, 3, 54), (54, .aload_n 0, 1, 55), (55, .getfield 43, 3, 58), (58, .getfield 181, 3, 61), (61, .ireturn, 1, 62)]
theorem dt_PT_best_0 : ev_dall m_PT_best tb_PT_best_0 := by decide +kernel
def tb_PT_grouped_0 : ev_tab := [(0, .aload_n 0, 1, 1), (1, .iload_n 1, 1, 2), (2, .invokevirtual 118, 3, 5), (5, .ifCond .eq 10, 3, 8), (8, .iload_n 2, 1, 9), (9, .invokestatic 86, 3, 12), (12, .ifCond .ne 13, 3, 15), (15, .new 98, 3, 18), (18, .dup, 1, 19), (19, .ldc 182, 2, 21), (21, .invokespecial 102, 3, 24), (24, .athrow, 1, 25), (25, .aload_n 0, 1, 26), (26, .getfield 36, 3, 29), (29, .aload_n 0, 1, 30), (30, .getfield 12, 3, 33), (33, .aload_n 0, 1, 34), (34, .getfield 18, 3, 37), (37, .iload_n 1, 1, 38), (38, .aaload, 1, 39), (39, .aload_n 0, 1, 40), (40, .getfield 29, 3, 43), (43, .invokevirtual 173, 3, 46), (46, .aload_n 0, 1, 47), (47, .getfield 36, 3, 50), (50, .aload_n 0, 1, 51), (51, .getfield 12, 3, 54), (54, .iload_n 2, 1, 55), (55, .invokevirtual 184, 3, 58), (58, .aload_n 0, 1, 59), (59, .getfield 36, 3, 62), (62, .aload_n 0, 1, 63), (63, .getfield 12, 3, 66), (66, .aload_n 0, 1, 67), (67, .getfield 43, 3, 70), (70, .invokevirtual 177, 3, 73), (73, .aload_n 0, 1, 74), (74, .getfield 43, 3, 77), (77, .getfield 181, 3, 80), (80, .ireturn, 1, 81)]
theorem dt_PT_grouped_0 : ev_dall m_PT_grouped tb_PT_grouped_0 := by decide +kernel
def tb_Contest_forgetOtherGroups_0 : ev_tab := [(0, .iconst 0, 1, 1), (1, .istore_n 3, 1, 2), (2, .iload_n 3, 1, 3), (3, .aload_n 1, 1, 4), (4, .getfield 26, 3, 7), (7, .if_icmp .ge 62, 3, 10), (10, .iconst 0, 1, 11), (11, .istore 4, 2, 13), (13, .iload 4, 2, 15), (15, .aload_n 1, 1, 16), (16, .getfield 26, 3, 19), (19, .if_icmp .ge 44, 3, 22), (22, .aload_n 1, 1, 23), (23, .getfield 35, 3, 26), (26, .iload_n 3, 1, 27), (27, .aaload, 1, 28), (28, .iload_n 2, 1, 29), (29, .iaload, 1, 30), (30, .aload_n 1, 1, 31), (31, .getfield 35, 3, 34), (34, .iload 4, 2, 36), (36, .aaload, 1, 37), (37, .iload_n 2, 1, 38), (38, .iaload, 1, 39), (39, .if_icmp .eq 18, 3, 42), (42, .aload_n 0, 1, 43), (43, .getfield 9, 3, 46), (46, .iload_n 3, 1, 47), (47, .dup2, 1, 48), (48, .iaload, 1, 49), (49, .iconst 1, 1, 50), (50, .iload 4, 2, 52), (52, .ishl, 1, 53), (53, .iconst (-1), 1, 54), (54, .ixor, 1, 55), (55, .iand, 1, 56), (56, .iastore, 1, 57), (57, .iinc 4 1, 3, 60), (60, .goto (-47), 3, 63), (63, .iinc 3 1, 3, 66), (66, .goto (-64), 3, 69), (69, .return_, 1, 70)]
theorem dt_Contest_forgetOtherGroups_0 : ev_dall m_Contest_forgetOtherGroups tb_Contest_forgetOtherGroups_0 := by decide +kernel
def tb_PT_top_0 : ev_tab := [(0, .aload_n 0, 1, 1), (1, .iload_n 1, 1, 2), (2, .invokevirtual 118, 3, 5), (5, .ifCond .ne 13, 3, 8), (8, .new 98, 3, 11), (11, .dup, 1, 12), (12, .ldc 171, 2, 14), (14, .invokespecial 102, 3, 17), (17, .athrow, 1, 18), (18, .iload_n 2, 1, 19), (19, .ifCond .ge 13, 3, 22), (22, .new 103, 3, 25), (25, .dup, 1, 26), (26, .ldc 188, 2, 28), (28, .invokespecial 107, 3, 31), (31, .athrow, 1, 32), (32, .aload_n 0, 1, 33), (33, .getfield 36, 3, 36), (36, .aload_n 0, 1, 37), (37, .getfield 12, 3, 40), (40, .aload_n 0, 1, 41), (41, .getfield 18, 3, 44), (44, .iload_n 1, 1, 45), (45, .aaload, 1, 46), (46, .aload_n 0, 1, 47), (47, .getfield 29, 3, 50), (50, .invokevirtual 173, 3, 53), (53, .aload_n 0, 1, 54), (54, .getfield 36, 3, 57), (57, .invokevirtual 190, 3, 60), (60, .aload_n 0, 1, 61), (61, .getfield 36, 3, 64), (64, .aload_n 0, 1, 65), (65, .getfield 12, 3, 68), (68, .iload_n 2, 1, 69), (69, .aload_n 0, 1, 70), (70, .getfield 43, 3, 73), (73, .invokevirtual 193, 3, 76), (76, .aload_n 0, 1, 77), (77, .getfield 43, 3, 80), (80, .getfield 181, 3, 83), (83, .ireturn, 1, 84)]
theorem dt_PT_top_0 : ev_dall m_PT_top tb_PT_top_0 := by decide +kernel
def tb_Contest_rank_0 : ev_tab := [(0, .aload_n 0, 1, 1), (1, .aload_n 0, 1, 2), (2, .getfield 18, 3, 5), (5, .iconst (-1), 1, 6), (6, .ixor, 1, 7), (7, .iconst 0, 1, 8), (8, .invokevirtual 67, 3, 11), (11, .aload_n 0, 1, 12), (12, .getfield 18, 3, 15), (15, .istore_n 1, 1, 16), (16, .iconst 1, 1, 17), (17, .istore_n 2, 1, 18), (18, .iload_n 2, 1, 19), (19, .bipush 24, 2, 21), (21, .if_icmp .gt 31, 3, 24), (24, .iload_n 1, 1, 25), (25, .ifCond .eq 27, 3, 28), (28, .aload_n 0, 1, 29), (29, .iload_n 1, 1, 30), (30, .invokevirtual 71, 3, 33), (33, .istore_n 3, 1, 34), (34, .aload_n 0, 1, 35), (35, .iload_n 3, 1, 36), (36, .iload_n 2, 1, 37), (37, .invokevirtual 67, 3, 40), (40, .iload_n 1, 1, 41), (41, .iload_n 3, 1, 42), (42, .iconst (-1), 1, 43), (43, .ixor, 1, 44), (44, .iand, 1, 45), (45, .istore_n 1, 1, 46), (46, .iinc 2 1, 3, 49), (49, .goto (-31), 3, 52), (52, .return_, 1, 53)]
theorem dt_Contest_rank_0 : ev_dall m_Contest_rank tb_Contest_rank_0 := by decide +kernel
def tb_Contest_setLevel_0 : ev_tab := [(0, .iconst 0, 1, 1), (1, .istore_n 3, 1, 2), (2, .iload_n 3, 1, 3), (3, .bipush 24, 2, 5), (5, .if_icmp .ge 24, 3, 8), (8, .iload_n 1, 1, 9), (9, .iload_n 3, 1, 10), (10, .invokestatic 31, 3, 13), (13, .ifCond .eq 10, 3, 16), (16, .aload_n 0, 1, 17), (17, .getfield 15, 3, 20), (20, .iload_n 3, 1, 21), (21, .iload_n 2, 1, 22), (22, .iastore, 1, 23), (23, .iinc 3 1, 3, 26), (26, .goto (-24), 3, 29), (29, .return_, 1, 30)]
theorem dt_Contest_setLevel_0 : ev_dall m_Contest_setLevel tb_Contest_setLevel_0 := by decide +kernel
def tb_Contest_unbeatenAmong_0 : ev_tab := [(0, .iconst 0, 1, 1), (1, .istore_n 2, 1, 2), (2, .iconst 0, 1, 3), (3, .istore_n 3, 1, 4), (4, .iload_n 3, 1, 5), (5, .bipush 24, 2, 7), (7, .if_icmp .ge 34, 3, 10), (10, .iload_n 1, 1, 11), (11, .iload_n 3, 1, 12), (12, .invokestatic 31, 3, 15), (15, .ifCond .eq 20, 3, 18), (18, .aload_n 0, 1, 19), (19, .getfield 9, 3, 22), (22, .iload_n 3, 1, 23), (23, .iaload, 1, 24), (24, .iload_n 1, 1, 25), (25, .iand, 1, 26), (26, .ifCond .ne 9, 3, 29), (29, .iload_n 2, 1, 30), (30, .iconst 1, 1, 31), (31, .iload_n 3, 1, 32), (32, .ishl, 1, 33), (33, .ior, 1, 34), (34, .istore_n 2, 1, 35), (35, .iinc 3 1, 3, 38), (38, .goto (-34), 3, 41), (41, .iload_n 2, 1, 42), (42, .ireturn, 1, 43)]
theorem dt_Contest_unbeatenAmong_0 : ev_dall m_Contest_unbeatenAmong tb_Contest_unbeatenAmong_0 := by decide +kernel
def tb_Contest_listFirst_0 : ev_tab := [(0, .aload_n 3, 1, 1), (1, .invokevirtual 55, 3, 4), (4, .iconst 1, 1, 5), (5, .istore 4, 2, 7), (7, .iload 4, 2, 9), (9, .aload_n 1, 1, 10), (10, .getfield 26, 3, 13), (13, .if_icmp .gt 58, 3, 16), (16, .iconst 0, 1, 17), (17, .istore 5, 2, 19), (19, .iload 5, 2, 21), (21, .aload_n 1, 1, 22), (22, .getfield 26, 3, 25), (25, .if_icmp .ge 40, 3, 28), (28, .aload_n 3, 1, 29), (29, .getfield 75, 3, 32), (32, .iload_n 2, 1, 33), (33, .if_icmp .ge 32, 3, 36), (36, .aload_n 0, 1, 37), (37, .getfield 15, 3, 40), (40, .iload 5, 2, 42), (42, .iaload, 1, 43), (43, .iload 4, 2, 45), (45, .if_icmp .ne 14, 3, 48), (48, .aload_n 3, 1, 49), (49, .aload_n 1, 1, 50), (50, .getfield 60, 3, 53), (53, .iload 5, 2, 55), (55, .iaload, 1, 56), (56, .invokevirtual 63, 3, 59), (59, .iinc 5 1, 3, 62), (62, .goto (-43), 3, 65), (65, .iinc 4 1, 3, 68), (68, .goto (-61), 3, 71), (71, .return_, 1, 72)]
theorem dt_Contest_listFirst_0 : ev_dall m_Contest_listFirst tb_Contest_listFirst_0 := by decide +kernel
def tb_PT_level_0 : ev_tab := [(0, .aload_n 0, 1, 1), (1, .getfield 12, 3, 4), (4, .iload_n 2, 1, 5), (5, .invokevirtual 82, 3, 8), (8, .istore_n 3, 1, 9), (9, .aload_n 0, 1, 10), (10, .iload_n 1, 1, 11), (11, .invokevirtual 118, 3, 14), (14, .ifCond .eq 8, 3, 17), (17, .iload_n 3, 1, 18), (18, .iconst (-1), 1, 19), (19, .if_icmp .ne 13, 3, 22), (22, .new 98, 3, 25), (25, .dup, 1, 26), (26, .ldc 165, 2, 28), (28, .invokespecial 102, 3, 31), (31, .athrow, 1, 32), (32, .aload_n 0, 1, 33), (33, .getfield 36, 3, 36), (36, .aload_n 0, 1, 37), (37, .getfield 12, 3, 40), (40, .aload_n 0, 1, 41), (41, .getfield 18, 3, 44), (44, .iload_n 1, 1, 45), (45, .aaload, 1, 46), (46, .aload_n 0, 1, 47), (47, .getfield 29, 3, 50), (50, .invokevirtual 173, 3, 53), (53, .aload_n 0, 1, 54), (54, .getfield 36, 3, 57), (57, .invokevirtual 190, 3, 60), (60, .aload_n 0, 1, 61), (61, .getfield 36, 3, 64), (64, .getfield 197, 3, 67), (67, .iload_n 3, 1, 68), (68, .iaload, 1, 69), (69, .ireturn, 1, 70)]
theorem dt_PT_level_0 : ev_dall m_PT_level tb_PT_level_0 := by decide +kernel
def tb_PT_reason_0 : ev_tab := [(0, .aload_n 0, 1, 1), (1, .getfield 12, 3, 4), (4, .iload_n 2, 1, 5), (5, .invokevirtual 82, 3, 8), (8, .istore 5, 2, 10), (10, .aload_n 0, 1, 11), (11, .getfield 12, 3, 14), (14, .iload_n 3, 1, 15), (15, .invokevirtual 82, 3, 18), (18, .istore 6, 2, 20), (20, .aload_n 0, 1, 21), (21, .iload_n 1, 1, 22), (22, .invokevirtual 118, 3, 25), (25, .ifCond .eq 15, 3, 28), (28, .iload 5, 2, 30), (30, .iconst (-1), 1, 31), (31, .if_icmp .eq 9, 3, 34), (34, .iload 6, 2, 36), (36, .iconst (-1), 1, 37), (37, .if_icmp .ne 13, 3, 40), (40, .new 98, 3, 43), (43, .dup, 1, 44), (44, .ldc 165, 2, 46), (46, .invokespecial 102, 3, 49), (49, .athrow, 1, 50), (50, .aload_n 0, 1, 51), (51, .getfield 18, 3, 54), (54, .iload_n 1, 1, 55), (55, .aaload, 1, 56), (56, .aload_n 0, 1, 57), (57, .getfield 12, 3, 60), (60, .getfield 90, 3, 63), (63, .iload 5, 2, 65), (65, .aaload, 1, 66), (66, .aload_n 0, 1, 67), (67, .getfield 12, 3, 70), (70, .getfield 90, 3, 73), (73, .iload 6, 2, 75), (75, .aaload, 1, 76), (76, .invokevirtual 167, 3, 79), (79, .iconst 1, 1, 80), (80, .if_icmp .eq 5, 3, 83), (83, .iconst (-1), 1, 84), (84, .ireturn, 1, 85), (85, .aload_n 0, 1, 86), (86, .getfield 18, 3, 89), (89, .iload_n 1, 1, 90), (90, .aaload, 1, 91), (91, .aload_n 0, 1, 92), (92, .getfield 12, 3, 95), (95, .getfield 90, 3, 98), (98, .iload 5, 2, 100), (100, .aaload, 1, 101), (101, .aload_n 0, 1, 102), (102, .getfield 12, 3, 105), (105, .getfield 90, 3, 108), (108, .iload 6, 2, 110), (110, .aaload, 1, 111), (111, .iload 4, 2, 113), (113, .invokestatic 204, 3, 116)]
theorem dt_PT_reason_0 : ev_dall m_PT_reason tb_PT_reason_0 := by decide +kernel
def tb_PT_reason_1 : ev_tab := [(116, .ireturn, 1, 117)]
theorem dt_PT_reason_1 : ev_dall m_PT_reason tb_PT_reason_1 := by decide +kernel
def tb_PT_walkToDecider_0 : ev_tab := [(0, .aload_n 0, 1, 1), (1, .astore 4, 2, 3), (3, .aload_n 1, 1, 4), (4, .astore 5, 2, 6), (6, .aload_n 2, 1, 7), (7, .astore 6, 2, 9), (9, .iconst 1, 1, 10), (10, .istore 7, 2, 12), (12, .iload 7, 2, 14), (14, .bipush 24, 2, 16), (16, .if_icmp .ge 57, 3, 19), (19, .aload 4, 2, 21), (21, .instanceof 142, 3, 24), (24, .ifCond .eq 49, 3, 27), (27, .aload 4, 2, 29), (29, .checkcast 142, 3, 32), (32, .astore 8, 2, 34), (34, .aload 8, 2, 36), (36, .aload 5, 2, 38), (38, .aload 6, 2, 40), (40, .invokevirtual 267, 3, 43), (43, .astore 4, 2, 45), (45, .aload 8, 2, 47), (47, .getfield 271, 3, 50), (50, .bipush 9, 2, 52), (52, .if_icmp .ne 15, 3, 55), (55, .aload 5, 2, 57), (57, .astore 9, 2, 59), (59, .aload 6, 2, 61), (61, .astore 5, 2, 63), (63, .aload 9, 2, 65), (65, .astore 6, 2, 67), (67, .iinc 7 1, 3, 70), (70, .goto (-58), 3, 73), (73, .iload_n 3, 1, 74), (74, .ifCond .ne 9, 3, 77), (77, .aload 4, 2, 79), (79, .getfield 252, 3, 82), (82, .ireturn, 1, 83), (83, .iload_n 3, 1, 84), (84, .iconst 1, 1, 85), (85, .if_icmp .ne 8, 3, 88), (88, .iload 7, 2, 90), (90, .goto 4, 3, 93), (93, .iconst (-1), 1, 94), (94, .ireturn, 1, 95)]
theorem dt_PT_walkToDecider_0 : ev_dall m_PT_walkToDecider tb_PT_walkToDecider_0 := by decide +kernel
def tb_Term_partThatDecides_0 : ev_tab := [(0, .aload_n 0, 1, 1), (1, .getfield 33, 3, 4), (4, .lookupswitch 78 #[(6, 28), (7, 53)], 28, 32), (32, .aload_n 0, 1, 33), (33, .getfield 19, 3, 36), (36, .aload_n 1, 1, 37), (37, .aload_n 2, 1, 38), (38, .invokevirtual 29, 3, 41), (41, .iconst 1, 1, 42), (42, .if_icmp .ne 10, 3, 45), (45, .aload_n 0, 1, 46), (46, .getfield 19, 3, 49), (49, .goto 7, 3, 52), (52, .aload_n 0, 1, 53), (53, .getfield 23, 3, 56), (56, .areturn, 1, 57), (57, .aload_n 0, 1, 58), (58, .getfield 19, 3, 61), (61, .aload_n 1, 1, 62), (62, .aload_n 2, 1, 63), (63, .invokevirtual 29, 3, 66), (66, .iconst 3, 1, 67), (67, .if_icmp .ne 10, 3, 70), (70, .aload_n 0, 1, 71), (71, .getfield 23, 3, 74), (74, .goto 7, 3, 77), (77, .aload_n 0, 1, 78), (78, .getfield 19, 3, 81), (81, .areturn, 1, 82), (82, .aload_n 0, 1, 83), (83, .getfield 19, 3, 86), (86, .areturn, 1, 87)]
theorem dt_Term_partThatDecides_0 : ev_dall m_Term_partThatDecides tb_Term_partThatDecides_0 := by decide +kernel
def tb_PT_save_0 : ev_tab := [(0, .iload_n 1, 1, 1), (1, .invokestatic 208, 3, 4), (4, .ifCond .eq 11, 3, 7), (7, .aload_n 0, 1, 8), (8, .iload_n 2, 1, 9), (9, .invokevirtual 118, 3, 12), (12, .ifCond .ne 13, 3, 15), (15, .new 98, 3, 18), (18, .dup, 1, 19), (19, .ldc 211, 2, 21), (21, .invokespecial 102, 3, 24), (24, .athrow, 1, 25), (25, .aload_n 0, 1, 26), (26, .getfield 52, 3, 29), (29, .iload_n 1, 1, 30), (30, .aaload, 1, 31), (31, .astore_n 3, 1, 32), (32, .aload_n 3, 1, 33), (33, .aload_n 0, 1, 34), (34, .getfield 18, 3, 37), (37, .iload_n 2, 1, 38), (38, .aaload, 1, 39), (39, .aload_n 0, 1, 40), (40, .getfield 29, 3, 43), (43, .invokevirtual 213, 3, 46), (46, .aload_n 0, 1, 47), (47, .aload_n 3, 1, 48), (48, .invokevirtual 217, 3, 51), (51, .aload_n 3, 1, 52), (52, .getfield 221, 3, 55), (55, .getfield 181, 3, 58), (58, .ireturn, 1, 59)]
theorem dt_PT_save_0 : ev_dall m_PT_save tb_PT_save_0 := by decide +kernel
def tb_Question_ask_0 : ev_tab := [(0, .aload_n 0, 1, 1), (1, .aload_n 1, 1, 2), (2, .putfield 9, 3, 5), (5, .aload_n 0, 1, 6), (6, .getfield 18, 3, 9), (9, .aload_n 2, 1, 10), (10, .invokevirtual 36, 3, 13), (13, .aload_n 0, 1, 14), (14, .iconst (-1), 1, 15), (15, .putfield 32, 3, 18), (18, .return_, 1, 19)]
theorem dt_Question_ask_0 : ev_dall m_Question_ask tb_Question_ask_0 := by decide +kernel
def tb_Conditions_copyFrom_0 : ev_tab := [(0, .aload_n 0, 1, 1), (1, .invokevirtual 25, 3, 4), (4, .iconst 0, 1, 5), (5, .istore_n 2, 1, 6), (6, .iload_n 2, 1, 7), (7, .aload_n 1, 1, 8), (8, .getfield 21, 3, 11), (11, .if_icmp .ge 31, 3, 14), (14, .aload_n 0, 1, 15), (15, .aload_n 1, 1, 16), (16, .getfield 9, 3, 19), (19, .iload_n 2, 1, 20), (20, .iaload, 1, 21), (21, .aload_n 1, 1, 22), (22, .getfield 15, 3, 25), (25, .iload_n 2, 1, 26), (26, .iaload, 1, 27), (27, .aload_n 1, 1, 28), (28, .getfield 18, 3, 31), (31, .iload_n 2, 1, 32), (32, .iaload, 1, 33), (33, .invokevirtual 28, 3, 36), (36, .iinc 2 1, 3, 39), (39, .goto (-33), 3, 42), (42, .return_, 1, 43)]
theorem dt_Conditions_copyFrom_0 : ev_dall m_Conditions_copyFrom tb_Conditions_copyFrom_0 := by decide +kernel
def tb_PT_reduce_0 : ev_tab := [(0, .aload_n 0, 1, 1), (1, .iload_n 1, 1, 2), (2, .invokevirtual 118, 3, 5), (5, .ifCond .ne 13, 3, 8), (8, .new 98, 3, 11), (11, .dup, 1, 12), (12, .ldc 171, 2, 14), (14, .invokespecial 102, 3, 17), (17, .athrow, 1, 18), (18, .aload_n 0, 1, 19), (19, .aload_n 0, 1, 20), (20, .getfield 18, 3, 23), (23, .iload_n 1, 1, 24), (24, .aaload, 1, 25), (25, .aload_n 0, 1, 26), (26, .getfield 59, 3, 29), (29, .iconst 0, 1, 30), (30, .invokevirtual 233, 3, 33), (33, .putfield 63, 3, 36), (36, .aload_n 0, 1, 37), (37, .getfield 63, 3, 40), (40, .ireturn, 1, 41)]
theorem dt_PT_reduce_0 : ev_dall m_PT_reduce tb_PT_reduce_0 := by decide +kernel
def tb_Order_putReduced_0 : ev_tab := [(0, .aload_n 1, 1, 1), (1, .iload_n 2, 1, 2), (2, .aload_n 0, 1, 3), (3, .getfield 19, 3, 6), (6, .iastore, 1, 7), (7, .aload_n 1, 1, 8), (8, .iload_n 2, 1, 9), (9, .iconst 1, 1, 10), (10, .iadd, 1, 11), (11, .aload_n 0, 1, 12), (12, .getfield 9, 3, 15), (15, .iastore, 1, 16), (16, .aload_n 0, 1, 17), (17, .aload_n 1, 1, 18), (18, .iload_n 2, 1, 19), (19, .iconst 2, 1, 20), (20, .iadd, 1, 21), (21, .invokevirtual 22, 3, 24), (24, .ireturn, 1, 25)]
theorem dt_Order_putReduced_0 : ev_dall m_Order_putReduced tb_Order_putReduced_0 := by decide +kernel
def tb_ValueOrder_putOwn_0 : ev_tab := [(0, .aload_n 0, 1, 1), (1, .getfield 18, 3, 4), (4, .ifCond .eq 11, 3, 7), (7, .aload_n 0, 1, 8), (8, .getfield 18, 3, 11), (11, .iconst 1, 1, 12), (12, .if_icmp .ne 5, 3, 15), (15, .iload_n 2, 1, 16), (16, .ireturn, 1, 17), (17, .aload_n 1, 1, 18), (18, .iload_n 2, 1, 19), (19, .aload_n 0, 1, 20), (20, .getfield 9, 3, 23), (23, .iastore, 1, 24), (24, .aload_n 0, 1, 25), (25, .getfield 18, 3, 28), (28, .iconst 2, 1, 29), (29, .if_icmp .ne 7, 3, 32), (32, .iload_n 2, 1, 33), (33, .iconst 1, 1, 34), (34, .iadd, 1, 35), (35, .ireturn, 1, 36), (36, .aload_n 1, 1, 37), (37, .iload_n 2, 1, 38), (38, .iconst 1, 1, 39), (39, .iadd, 1, 40), (40, .aload_n 0, 1, 41), (41, .getfield 15, 3, 44), (44, .iastore, 1, 45), (45, .iload_n 2, 1, 46), (46, .iconst 2, 1, 47), (47, .iadd, 1, 48), (48, .ireturn, 1, 49)]
theorem dt_ValueOrder_putOwn_0 : ev_dall m_ValueOrder_putOwn tb_ValueOrder_putOwn_0 := by decide +kernel
def tb_Order_putOwn_0 : ev_tab := [(0, .aload_n 1, 1, 1), (1, .iload_n 2, 1, 2), (2, .aload_n 0, 1, 3), (3, .getfield 26, 3, 6), (6, .iastore, 1, 7), (7, .iload_n 2, 1, 8), (8, .iconst 1, 1, 9), (9, .iadd, 1, 10), (10, .ireturn, 1, 11)]
theorem dt_Order_putOwn_0 : ev_dall m_Order_putOwn tb_Order_putOwn_0 := by decide +kernel
def tb_Term_putReduced_0 : ev_tab := [(0, .aload_n 1, 1, 1), (1, .iload_n 2, 1, 2), (2, .aload_n 0, 1, 3), (3, .getfield 33, 3, 6), (6, .iastore, 1, 7), (7, .aload_n 0, 1, 8), (8, .getfield 19, 3, 11), (11, .aload_n 1, 1, 12), (12, .iload_n 2, 1, 13), (13, .iconst 1, 1, 14), (14, .iadd, 1, 15), (15, .invokevirtual 44, 3, 18), (18, .istore_n 3, 1, 19), (19, .aload_n 0, 1, 20), (20, .getfield 33, 3, 23), (23, .bipush 9, 2, 25), (25, .if_icmp .ne 10, 3, 28), (28, .aload_n 1, 1, 29), (29, .iload_n 2, 1, 30), (30, .iload_n 3, 1, 31), (31, .invokestatic 48, 3, 34), (34, .ireturn, 1, 35), (35, .aload_n 0, 1, 36), (36, .getfield 23, 3, 39), (39, .aload_n 1, 1, 40), (40, .iload_n 3, 1, 41), (41, .invokevirtual 44, 3, 44), (44, .istore 4, 2, 46), (46, .aload_n 1, 1, 47), (47, .iload_n 2, 1, 48), (48, .iconst 1, 1, 49), (49, .iadd, 1, 50), (50, .iload_n 3, 1, 51), (51, .iload 4, 2, 53), (53, .invokestatic 52, 3, 56), (56, .ifCond .ne 10, 3, 59), (59, .aload_n 0, 1, 60), (60, .invokevirtual 56, 3, 63), (63, .ifCond .eq 13, 3, 66), (66, .aload_n 1, 1, 67), (67, .iload_n 2, 1, 68), (68, .iconst 1, 1, 69), (69, .iadd, 1, 70), (70, .iload_n 3, 1, 71), (71, .iconst 1, 1, 72), (72, .invokestatic 60, 3, 75), (75, .ireturn, 1, 76), (76, .aload_n 0, 1, 77), (77, .getfield 33, 3, 80), (80, .bipush 7, 2, 82), (82, .if_icmp .eq 30, 3, 85), (85, .aload_n 1, 1, 86), (86, .iload_n 2, 1, 87), (87, .iconst 1, 1, 88), (88, .iadd, 1, 89), (89, .iaload, 1, 90), (90, .bipush 9, 2, 92), (92, .if_icmp .ne 20, 3, 95), (95, .aload_n 1, 1, 96), (96, .iload_n 3, 1, 97)]
theorem dt_Term_putReduced_0 : ev_dall m_Term_putReduced tb_Term_putReduced_0 := by decide +kernel
def tb_Term_putReduced_1 : ev_tab := [(97, .iaload, 1, 98), (98, .bipush 9, 2, 100), (100, .if_icmp .ne 12, 3, 103), (103, .aload_n 1, 1, 104), (104, .iload_n 2, 1, 105), (105, .iload_n 3, 1, 106), (106, .iload 4, 2, 108), (108, .invokestatic 64, 3, 111), (111, .ireturn, 1, 112), (112, .iload 4, 2, 114), (114, .ireturn, 1, 115)]
theorem dt_Term_putReduced_1 : ev_dall m_Term_putReduced tb_Term_putReduced_1 := by decide +kernel
def tb_Term_reduceDual_0 : ev_tab := [(0, .aload_n 0, 1, 1), (1, .iload_n 1, 1, 2), (2, .iconst 1, 1, 3), (3, .iadd, 1, 4), (4, .iaload, 1, 5), (5, .istore_n 3, 1, 6), (6, .iload_n 3, 1, 7), (7, .bipush 9, 2, 9), (9, .if_icmp .ne 13, 3, 12), (12, .aload_n 0, 1, 13), (13, .iload_n 1, 1, 14), (14, .iconst 2, 1, 15), (15, .iadd, 1, 16), (16, .iload_n 2, 1, 17), (17, .iconst 2, 1, 18), (18, .invokestatic 60, 3, 21), (21, .ireturn, 1, 22), (22, .iload_n 3, 1, 23), (23, .ifCond .eq 8, 3, 26), (26, .iload_n 3, 1, 27), (27, .iconst 1, 1, 28), (28, .if_icmp .ne 27, 3, 31), (31, .aload_n 0, 1, 32), (32, .iload_n 1, 1, 33), (33, .iconst 1, 1, 34), (34, .iadd, 1, 35), (35, .iload_n 3, 1, 36), (36, .ifCond .ne 7, 3, 39), (39, .iconst 1, 1, 40), (40, .goto 4, 3, 43), (43, .iconst 0, 1, 44), (44, .iastore, 1, 45), (45, .aload_n 0, 1, 46), (46, .iload_n 1, 1, 47), (47, .iconst 1, 1, 48), (48, .iadd, 1, 49), (49, .iload_n 2, 1, 50), (50, .iconst 1, 1, 51), (51, .invokestatic 60, 3, 54), (54, .ireturn, 1, 55), (55, .iload_n 2, 1, 56), (56, .ireturn, 1, 57)]
theorem dt_Term_reduceDual_0 : ev_dall m_Term_reduceDual tb_Term_reduceDual_0 := by decide +kernel
def tb_Term_moveBack_0 : ev_tab := [(0, .aload_n 0, 1, 1), (1, .iload_n 1, 1, 2), (2, .aload_n 0, 1, 3), (3, .iload_n 1, 1, 4), (4, .iload_n 3, 1, 5), (5, .isub, 1, 6), (6, .iload_n 2, 1, 7), (7, .iload_n 1, 1, 8), (8, .isub, 1, 9), (9, .invokestatic 67, 3, 12), (12, .iload_n 2, 1, 13), (13, .iload_n 3, 1, 14), (14, .isub, 1, 15), (15, .ireturn, 1, 16)]
theorem dt_Term_moveBack_0 : ev_dall m_Term_moveBack tb_Term_moveBack_0 := by decide +kernel
def tb_Term_areAlike_0 : ev_tab := [(0, .iload_n 2, 1, 1), (1, .iload_n 1, 1, 2), (2, .isub, 1, 3), (3, .istore 4, 2, 5), (5, .iload_n 3, 1, 6), (6, .iload_n 2, 1, 7), (7, .isub, 1, 8), (8, .iload 4, 2, 10), (10, .if_icmp .eq 5, 3, 13), (13, .iconst 0, 1, 14), (14, .ireturn, 1, 15), (15, .iconst 0, 1, 16), (16, .istore 5, 2, 18), (18, .iload 5, 2, 20), (20, .iload 4, 2, 22), (22, .if_icmp .ge 26, 3, 25), (25, .aload_n 0, 1, 26), (26, .iload_n 1, 1, 27), (27, .iload 5, 2, 29), (29, .iadd, 1, 30), (30, .iaload, 1, 31), (31, .aload_n 0, 1, 32), (32, .iload_n 2, 1, 33), (33, .iload 5, 2, 35), (35, .iadd, 1, 36), (36, .iaload, 1, 37), (37, .if_icmp .eq 5, 3, 40), (40, .iconst 0, 1, 41), (41, .ireturn, 1, 42), (42, .iinc 5 1, 3, 45), (45, .goto (-27), 3, 48), (48, .iconst 1, 1, 49), (49, .ireturn, 1, 50)]
theorem dt_Term_areAlike_0 : ev_dall m_Term_areAlike tb_Term_areAlike_0 := by decide +kernel
def tb_Term_pDecidesAlone_0 : ev_tab := [(0, .aload_n 0, 1, 1), (1, .getfield 33, 3, 4), (4, .bipush 7, 2, 6), (6, .if_icmp .ne 27, 3, 9), (9, .aload_n 0, 1, 10), (10, .getfield 23, 3, 13), (13, .getfield 9, 3, 16), (16, .aload_n 0, 1, 17), (17, .getfield 19, 3, 20), (20, .getfield 9, 3, 23), (23, .iconst (-1), 1, 24), (24, .ixor, 1, 25), (25, .iand, 1, 26), (26, .ifCond .ne 7, 3, 29), (29, .iconst 1, 1, 30), (30, .goto 4, 3, 33), (33, .iconst 0, 1, 34), (34, .ireturn, 1, 35)]
theorem dt_Term_pDecidesAlone_0 : ev_dall m_Term_pDecidesAlone tb_Term_pDecidesAlone_0 := by decide +kernel
def tb_Term_pullDualOut_0 : ev_tab := [(0, .aload_n 0, 1, 1), (1, .iload_n 1, 1, 2), (2, .iconst 1, 1, 3), (3, .iadd, 1, 4), (4, .aload_n 0, 1, 5), (5, .iload_n 1, 1, 6), (6, .iaload, 1, 7), (7, .iastore, 1, 8), (8, .aload_n 0, 1, 9), (9, .iload_n 1, 1, 10), (10, .bipush 9, 2, 12), (12, .iastore, 1, 13), (13, .aload_n 0, 1, 14), (14, .iload_n 2, 1, 15), (15, .iconst 1, 1, 16), (16, .iadd, 1, 17), (17, .iload_n 3, 1, 18), (18, .iconst 1, 1, 19), (19, .invokestatic 60, 3, 22), (22, .ireturn, 1, 23)]
theorem dt_Term_pullDualOut_0 : ev_dall m_Term_pullDualOut tb_Term_pullDualOut_0 := by decide +kernel
def tb_PT_form_0 : ev_tab := [(0, .iload_n 1, 1, 1), (1, .ifCond .lt 11, 3, 4), (4, .iload_n 1, 1, 5), (5, .aload_n 0, 1, 6), (6, .getfield 63, 3, 9), (9, .if_icmp .lt 13, 3, 12), (12, .new 98, 3, 15), (15, .dup, 1, 16), (16, .ldc 237, 2, 18), (18, .invokespecial 102, 3, 21), (21, .athrow, 1, 22), (22, .aload_n 0, 1, 23), (23, .getfield 59, 3, 26), (26, .iload_n 1, 1, 27), (27, .iaload, 1, 28), (28, .ireturn, 1, 29)]
theorem dt_PT_form_0 : ev_dall m_PT_form tb_PT_form_0 := by decide +kernel
end
section
/-! Decode tables (written by gen_lean.py). -/
def tb_Md_init_0 : ev_tab := [(0, .aload_n 0, 1, 1), (1, .invokespecial 1, 3, 4), (4, .aload_n 0, 1, 5), (5, .bipush 120, 2, 7), (7, .newarray .boolean, 2, 9), (9, .putfield 7, 3, 12), (12, .aload_n 0, 1, 13), (13, .sipush 480, 3, 16), (16, .newarray .int, 2, 18), (18, .putfield 13, 3, 21), (21, .aload_n 0, 1, 22), (22, .bipush 24, 2, 24), (24, .newarray .int, 2, 26), (26, .putfield 17, 3, 29), (29, .aload_n 0, 1, 30), (30, .bipush 24, 2, 32), (32, .newarray .int, 2, 34), (34, .putfield 20, 3, 37), (37, .aload_n 0, 1, 38), (38, .bipush 24, 2, 40), (40, .newarray .int, 2, 42), (42, .putfield 23, 3, 45), (45, .aload_n 0, 1, 46), (46, .bipush 24, 2, 48), (48, .newarray .int, 2, 50), (50, .putfield 26, 3, 53), (53, .aload_n 0, 1, 54), (54, .bipush 24, 2, 56), (56, .newarray .int, 2, 58), (58, .putfield 29, 3, 61), (61, .aload_n 0, 1, 62), (62, .sipush 240, 3, 65), (65, .newarray .int, 2, 67), (67, .putfield 32, 3, 70), (70, .aload_n 0, 1, 71), (71, .sipush 240, 3, 74), (74, .newarray .int, 2, 76), (76, .putfield 35, 3, 79), (79, .aload_n 0, 1, 80), (80, .bipush 24, 2, 82), (82, .newarray .int, 2, 84), (84, .putfield 38, 3, 87), (87, .aload_n 0, 1, 88), (88, .iconst 5, 1, 89), (89, .newarray .int, 2, 91), (91, .putfield 41, 3, 94), (94, .aload_n 0, 1, 95), (95, .bipush 20, 2, 97), (97, .newarray .int, 2, 99), (99, .putfield 44, 3, 102), (102, .aload_n 0, 1, 103), (103, .bipush 20, 2, 105), (105, .newarray .int, 2, 107), (107, .putfield 47, 3, 110), (110, .aload_n 0, 1, 111), (111, .bipush 20, 2, 113), (113, .newarray .int, 2, 115), (115, .putfield 50, 3, 118), (118, .aload_n 0, 1, 119), (119, .iconst 4, 1, 120)]
theorem dt_Md_init_0 : ev_dall m_Md_init tb_Md_init_0 := by decide +kernel
def tb_Md_init_1 : ev_tab := [(120, .newarray .boolean, 2, 122), (122, .putfield 53, 3, 125), (125, .aload_n 0, 1, 126), (126, .iconst 4, 1, 127), (127, .newarray .int, 2, 129), (129, .putfield 56, 3, 132), (132, .aload_n 0, 1, 133), (133, .sipush 480, 3, 136), (136, .newarray .boolean, 2, 138), (138, .putfield 59, 3, 141), (141, .aload_n 0, 1, 142), (142, .bipush 120, 2, 144), (144, .newarray .boolean, 2, 146), (146, .putfield 62, 3, 149), (149, .aload_n 0, 1, 150), (150, .bipush 120, 2, 152), (152, .newarray .int, 2, 154), (154, .putfield 65, 3, 157), (157, .aload_n 0, 1, 158), (158, .bipush 24, 2, 160), (160, .newarray .int, 2, 162), (162, .putfield 68, 3, 165), (165, .aload_n 0, 1, 166), (166, .bipush 100, 2, 168), (168, .newarray .int, 2, 170), (170, .putfield 71, 3, 173), (173, .aload_n 0, 1, 174), (174, .bipush 100, 2, 176), (176, .newarray .int, 2, 178), (178, .putfield 74, 3, 181), (181, .aload_n 0, 1, 182), (182, .bipush 100, 2, 184), (184, .newarray .int, 2, 186), (186, .putfield 77, 3, 189), (189, .aload_n 0, 1, 190), (190, .bipush 100, 2, 192), (192, .newarray .int, 2, 194), (194, .putfield 80, 3, 197), (197, .aload_n 0, 1, 198), (198, .bipush 100, 2, 200), (200, .newarray .int, 2, 202), (202, .putfield 83, 3, 205), (205, .aload_n 0, 1, 206), (206, .bipush 24, 2, 208), (208, .newarray .int, 2, 210), (210, .putfield 86, 3, 213), (213, .aload_n 0, 1, 214), (214, .sipush 200, 3, 217), (217, .newarray .int, 2, 219), (219, .putfield 89, 3, 222), (222, .aload_n 0, 1, 223), (223, .bipush 100, 2, 225), (225, .newarray .int, 2, 227), (227, .putfield 92, 3, 230), (230, .return_, 1, 231)]
theorem dt_Md_init_1 : ev_dall m_Md_init tb_Md_init_1 := by decide +kernel
def tb_Md_thrown_0 : ev_tab := [(0, .aload_n 0, 1, 1), (1, .getfield 95, 3, 4), (4, .ireturn, 1, 5)]
theorem dt_Md_thrown_0 : ev_dall m_Md_thrown tb_Md_thrown_0 := by decide +kernel
def tb_Md_row_0 : ev_tab := [(0, .aload_n 0, 1, 1), (1, .aload_n 0, 1, 2), (2, .getfield 99, 3, 5), (5, .bipush 120, 2, 7), (7, .if_icmp .eq 12, 3, 10), (10, .aload_n 0, 1, 11), (11, .invokevirtual 105, 3, 14), (14, .bipush 24, 2, 16), (16, .if_icmp .ne 7, 3, 19), (19, .iconst 1, 1, 20), (20, .goto 4, 3, 23), (23, .iconst 0, 1, 24), (24, .putfield 95, 3, 27), (27, .aload_n 0, 1, 28), (28, .getfield 95, 3, 31), (31, .ifCond .le 5, 3, 34), (34, .iconst 0, 1, 35), (35, .ireturn, 1, 36), (36, .aload_n 0, 1, 37), (37, .getfield 13, 3, 40), (40, .iconst 4, 1, 41), (41, .aload_n 0, 1, 42), (42, .getfield 99, 3, 45), (45, .imul, 1, 46), (46, .iload_n 1, 1, 47), (47, .iastore, 1, 48), (48, .aload_n 0, 1, 49), (49, .getfield 13, 3, 52), (52, .iconst 4, 1, 53), (53, .aload_n 0, 1, 54), (54, .getfield 99, 3, 57), (57, .imul, 1, 58), (58, .iconst 1, 1, 59), (59, .iadd, 1, 60), (60, .iload_n 2, 1, 61), (61, .iastore, 1, 62), (62, .aload_n 0, 1, 63), (63, .getfield 13, 3, 66), (66, .iconst 4, 1, 67), (67, .aload_n 0, 1, 68), (68, .getfield 99, 3, 71), (71, .imul, 1, 72), (72, .iconst 2, 1, 73), (73, .iadd, 1, 74), (74, .iload_n 3, 1, 75), (75, .iastore, 1, 76), (76, .aload_n 0, 1, 77), (77, .getfield 13, 3, 80), (80, .iconst 4, 1, 81), (81, .aload_n 0, 1, 82), (82, .getfield 99, 3, 85), (85, .imul, 1, 86), (86, .iconst 3, 1, 87), (87, .iadd, 1, 88), (88, .iload 4, 2, 90), (90, .iastore, 1, 91), (91, .aload_n 0, 1, 92), (92, .getfield 7, 3, 95), (95, .aload_n 0, 1, 96), (96, .getfield 99, 3, 99)]
theorem dt_Md_row_0 : ev_dall m_Md_row tb_Md_row_0 := by decide +kernel
def tb_Md_row_1 : ev_tab := [(99, .iconst 1, 1, 100), (100, .bastore, 1, 101), (101, .aload_n 0, 1, 102), (102, .dup, 1, 103), (103, .getfield 99, 3, 106), (106, .iconst 1, 1, 107), (107, .iadd, 1, 108), (108, .putfield 99, 3, 111), (111, .aload_n 0, 1, 112), (112, .getfield 99, 3, 115), (115, .iconst 1, 1, 116), (116, .isub, 1, 117), (117, .ireturn, 1, 118)]
theorem dt_Md_row_1 : ev_dall m_Md_row tb_Md_row_1 := by decide +kernel
def tb_Md_present_0 : ev_tab := [(0, .iconst 0, 1, 1), (1, .istore_n 1, 1, 2), (2, .iconst 0, 1, 3), (3, .istore_n 2, 1, 4), (4, .iload_n 2, 1, 5), (5, .aload_n 0, 1, 6), (6, .getfield 99, 3, 9), (9, .if_icmp .ge 26, 3, 12), (12, .iload_n 1, 1, 13), (13, .aload_n 0, 1, 14), (14, .getfield 7, 3, 17), (17, .iload_n 2, 1, 18), (18, .baload, 1, 19), (19, .ifCond .eq 7, 3, 22), (22, .iconst 1, 1, 23), (23, .goto 4, 3, 26), (26, .iconst 0, 1, 27), (27, .iadd, 1, 28), (28, .istore_n 1, 1, 29), (29, .iinc 2 1, 3, 32), (32, .goto (-28), 3, 35), (35, .iload_n 1, 1, 36), (36, .ireturn, 1, 37)]
theorem dt_Md_present_0 : ev_dall m_Md_present tb_Md_present_0 := by decide +kernel
def tb_Md_change_0 : ev_tab := [(0, .aload_n 0, 1, 1), (1, .iconst 0, 1, 2), (2, .putfield 95, 3, 5), (5, .aload_n 0, 1, 6), (6, .iload_n 1, 1, 7), (7, .invokevirtual 109, 3, 10), (10, .ifCond .eq 10, 3, 13), (13, .iload_n 2, 1, 14), (14, .invokestatic 113, 3, 17), (17, .ifCond .ne 5, 3, 20), (20, .iconst 0, 1, 21), (21, .ireturn, 1, 22), (22, .aload_n 0, 1, 23), (23, .getfield 13, 3, 26), (26, .iconst 4, 1, 27), (27, .iload_n 1, 1, 28), (28, .imul, 1, 29), (29, .iload_n 2, 1, 30), (30, .iadd, 1, 31), (31, .iload_n 3, 1, 32), (32, .iastore, 1, 33), (33, .iconst 1, 1, 34), (34, .ireturn, 1, 35)]
theorem dt_Md_change_0 : ev_dall m_Md_change tb_Md_change_0 := by decide +kernel
def tb_Md_isRow_0 : ev_tab := [(0, .iload_n 1, 1, 1), (1, .ifCond .lt 38, 3, 4), (4, .iload_n 1, 1, 5), (5, .aload_n 0, 1, 6), (6, .getfield 99, 3, 9), (9, .if_icmp .ge 30, 3, 12), (12, .aload_n 0, 1, 13), (13, .getfield 7, 3, 16), (16, .iload_n 1, 1, 17), (17, .ifCond .lt 9, 3, 20), (20, .iload_n 1, 1, 21), (21, .bipush 119, 2, 23), (23, .if_icmp .le 7, 3, 26), (26, .iconst 0, 1, 27), (27, .goto 4, 3, 30), (30, .iload_n 1, 1, 31), (31, .baload, 1, 32), (32, .ifCond .eq 7, 3, 35), (35, .iconst 1, 1, 36), (36, .goto 4, 3, 39), (39, .iconst 0, 1, 40), (40, .ireturn, 1, 41)]
theorem dt_Md_isRow_0 : ev_dall m_Md_isRow tb_Md_isRow_0 := by decide +kernel
def tb_Md_isColumn_0 : ev_tab := [(0, .iload_n 0, 1, 1), (1, .ifCond .lt 12, 3, 4), (4, .iload_n 0, 1, 5), (5, .iconst 4, 1, 6), (6, .if_icmp .ge 7, 3, 9), (9, .iconst 1, 1, 10), (10, .goto 4, 3, 13), (13, .iconst 0, 1, 14), (14, .ireturn, 1, 15)]
theorem dt_Md_isColumn_0 : ev_dall m_Md_isColumn tb_Md_isColumn_0 := by decide +kernel
def tb_Md_remove_0 : ev_tab := [(0, .aload_n 0, 1, 1), (1, .iconst 0, 1, 2), (2, .putfield 95, 3, 5), (5, .aload_n 0, 1, 6), (6, .iload_n 1, 1, 7), (7, .invokevirtual 109, 3, 10), (10, .ifCond .ne 5, 3, 13), (13, .iconst 0, 1, 14), (14, .ireturn, 1, 15), (15, .aload_n 0, 1, 16), (16, .getfield 7, 3, 19), (19, .iload_n 1, 1, 20), (20, .iconst 0, 1, 21), (21, .bastore, 1, 22), (22, .iconst 1, 1, 23), (23, .ireturn, 1, 24)]
theorem dt_Md_remove_0 : ev_dall m_Md_remove tb_Md_remove_0 := by decide +kernel
def tb_Md_value_0 : ev_tab := [(0, .aload_n 0, 1, 1), (1, .aload_n 0, 1, 2), (2, .iload_n 1, 1, 3), (3, .invokevirtual 109, 3, 6), (6, .ifCond .eq 14, 3, 9), (9, .iload_n 2, 1, 10), (10, .invokestatic 113, 3, 13), (13, .ifCond .eq 7, 3, 16), (16, .iconst 0, 1, 17), (17, .goto 4, 3, 20), (20, .iconst 1, 1, 21), (21, .putfield 95, 3, 24), (24, .aload_n 0, 1, 25), (25, .getfield 95, 3, 28), (28, .ifCond .le 7, 3, 31), (31, .iconst 0, 1, 32), (32, .goto 13, 3, 35), (35, .aload_n 0, 1, 36), (36, .getfield 13, 3, 39), (39, .iconst 4, 1, 40), (40, .iload_n 1, 1, 41), (41, .imul, 1, 42), (42, .iload_n 2, 1, 43), (43, .iadd, 1, 44), (44, .iaload, 1, 45), (45, .ireturn, 1, 46)]
theorem dt_Md_value_0 : ev_dall m_Md_value tb_Md_value_0 := by decide +kernel
def tb_Md_order_0 : ev_tab := [(0, .aload_n 0, 1, 1), (1, .iload_n 1, 1, 2), (2, .ifCond .lt 26, 3, 5), (5, .iload_n 1, 1, 6), (6, .iconst 5, 1, 7), (7, .if_icmp .gt 21, 3, 10), (10, .iload_n 2, 1, 11), (11, .invokestatic 113, 3, 14), (14, .ifCond .eq 14, 3, 17), (17, .iload_n 1, 1, 18), (18, .iconst 3, 1, 19), (19, .if_icmp .ne 13, 3, 22), (22, .iload_n 3, 1, 23), (23, .iload 4, 2, 25), (25, .if_icmp .le 7, 3, 28), (28, .iconst 1, 1, 29), (29, .goto 17, 3, 32), (32, .aload_n 0, 1, 33), (33, .getfield 102, 3, 36), (36, .bipush 24, 2, 38), (38, .if_icmp .ne 7, 3, 41), (41, .iconst 2, 1, 42), (42, .goto 4, 3, 45), (45, .iconst 0, 1, 46), (46, .putfield 95, 3, 49), (49, .aload_n 0, 1, 50), (50, .getfield 95, 3, 53), (53, .ifCond .le 5, 3, 56), (56, .iconst 0, 1, 57), (57, .ireturn, 1, 58), (58, .aload_n 0, 1, 59), (59, .getfield 17, 3, 62), (62, .aload_n 0, 1, 63), (63, .getfield 102, 3, 66), (66, .iload_n 1, 1, 67), (67, .iastore, 1, 68), (68, .aload_n 0, 1, 69), (69, .getfield 20, 3, 72), (72, .aload_n 0, 1, 73), (73, .getfield 102, 3, 76), (76, .iload_n 2, 1, 77), (77, .iastore, 1, 78), (78, .aload_n 0, 1, 79), (79, .getfield 23, 3, 82), (82, .aload_n 0, 1, 83), (83, .getfield 102, 3, 86), (86, .iload_n 3, 1, 87), (87, .iastore, 1, 88), (88, .aload_n 0, 1, 89), (89, .getfield 26, 3, 92), (92, .aload_n 0, 1, 93), (93, .getfield 102, 3, 96), (96, .iload 4, 2, 98), (98, .iastore, 1, 99), (99, .aload_n 0, 1, 100), (100, .getfield 29, 3, 103), (103, .aload_n 0, 1, 104), (104, .getfield 102, 3, 107), (107, .iconst 1, 1, 108), (108, .iastore, 1, 109)]
theorem dt_Md_order_0 : ev_dall m_Md_order tb_Md_order_0 := by decide +kernel
def tb_Md_order_1 : ev_tab := [(109, .iconst 0, 1, 110), (110, .istore 5, 2, 112), (112, .iload 5, 2, 114), (114, .bipush 10, 2, 116), (116, .if_icmp .ge 41, 3, 119), (119, .aload_n 0, 1, 120), (120, .getfield 32, 3, 123), (123, .bipush 10, 2, 125), (125, .aload_n 0, 1, 126), (126, .getfield 102, 3, 129), (129, .imul, 1, 130), (130, .iload 5, 2, 132), (132, .iadd, 1, 133), (133, .iconst (-1), 1, 134), (134, .iastore, 1, 135), (135, .aload_n 0, 1, 136), (136, .getfield 35, 3, 139), (139, .bipush 10, 2, 141), (141, .aload_n 0, 1, 142), (142, .getfield 102, 3, 145), (145, .imul, 1, 146), (146, .iload 5, 2, 148), (148, .iadd, 1, 149), (149, .iconst 0, 1, 150), (150, .iastore, 1, 151), (151, .iinc 5 1, 3, 154), (154, .goto (-42), 3, 157), (157, .aload_n 0, 1, 158), (158, .dup, 1, 159), (159, .getfield 102, 3, 162), (162, .iconst 1, 1, 163), (163, .iadd, 1, 164), (164, .putfield 102, 3, 167), (167, .aload_n 0, 1, 168), (168, .getfield 102, 3, 171), (171, .iconst 1, 1, 172), (172, .isub, 1, 173), (173, .ireturn, 1, 174)]
theorem dt_Md_order_1 : ev_dall m_Md_order tb_Md_order_1 := by decide +kernel
def tb_Md_layer_0 : ev_tab := [(0, .aload_n 0, 1, 1), (1, .iconst 0, 1, 2), (2, .putfield 95, 3, 5), (5, .aload_n 0, 1, 6), (6, .iload_n 1, 1, 7), (7, .invokevirtual 116, 3, 10), (10, .ifCond .eq 20, 3, 13), (13, .iload_n 2, 1, 14), (14, .invokestatic 119, 3, 17), (17, .ifCond .eq 13, 3, 20), (20, .iload_n 3, 1, 21), (21, .iconst (-1), 1, 22), (22, .if_icmp .lt 8, 3, 25), (25, .iload_n 3, 1, 26), (26, .iconst 5, 1, 27), (27, .if_icmp .le 5, 3, 30), (30, .iconst 0, 1, 31), (31, .ireturn, 1, 32), (32, .aload_n 0, 1, 33), (33, .getfield 17, 3, 36), (36, .iload_n 1, 1, 37), (37, .iaload, 1, 38), (38, .iconst 4, 1, 39), (39, .if_icmp .eq 5, 3, 42), (42, .iconst 0, 1, 43), (43, .ireturn, 1, 44), (44, .aload_n 0, 1, 45), (45, .getfield 32, 3, 48), (48, .bipush 10, 2, 50), (50, .iload_n 1, 1, 51), (51, .imul, 1, 52), (52, .iload_n 2, 1, 53), (53, .iadd, 1, 54), (54, .iload_n 3, 1, 55), (55, .iastore, 1, 56), (56, .iconst 1, 1, 57), (57, .ireturn, 1, 58)]
theorem dt_Md_layer_0 : ev_dall m_Md_layer tb_Md_layer_0 := by decide +kernel
def tb_Md_isNode_0 : ev_tab := [(0, .iload_n 1, 1, 1), (1, .ifCond .lt 15, 3, 4), (4, .iload_n 1, 1, 5), (5, .aload_n 0, 1, 6), (6, .getfield 102, 3, 9), (9, .if_icmp .ge 7, 3, 12), (12, .iconst 1, 1, 13), (13, .goto 4, 3, 16), (16, .iconst 0, 1, 17), (17, .ireturn, 1, 18)]
theorem dt_Md_isNode_0 : ev_dall m_Md_isNode tb_Md_isNode_0 := by decide +kernel
def tb_Md_isPlain_0 : ev_tab := [(0, .iload_n 0, 1, 1), (1, .ifCond .lt 13, 3, 4), (4, .iload_n 0, 1, 5), (5, .bipush 10, 2, 7), (7, .if_icmp .ge 7, 3, 10), (10, .iconst 1, 1, 11), (11, .goto 4, 3, 14), (14, .iconst 0, 1, 15), (15, .ireturn, 1, 16)]
theorem dt_Md_isPlain_0 : ev_dall m_Md_isPlain tb_Md_isPlain_0 := by decide +kernel
def tb_Md_edge_0 : ev_tab := [(0, .aload_n 0, 1, 1), (1, .aload_n 0, 1, 2), (2, .iload_n 1, 1, 3), (3, .invokevirtual 116, 3, 6), (6, .ifCond .eq 17, 3, 9), (9, .iload_n 2, 1, 10), (10, .invokestatic 119, 3, 13), (13, .ifCond .eq 10, 3, 16), (16, .iload_n 3, 1, 17), (17, .invokestatic 119, 3, 20), (20, .ifCond .ne 7, 3, 23), (23, .iconst 1, 1, 24), (24, .goto 4, 3, 27), (27, .iconst 0, 1, 28), (28, .putfield 95, 3, 31), (31, .aload_n 0, 1, 32), (32, .getfield 95, 3, 35), (35, .ifCond .le 5, 3, 38), (38, .iconst 0, 1, 39), (39, .ireturn, 1, 40), (40, .aload_n 0, 1, 41), (41, .aload_n 0, 1, 42), (42, .getfield 17, 3, 45), (45, .iload_n 1, 1, 46), (46, .iaload, 1, 47), (47, .iconst 5, 1, 48), (48, .if_icmp .eq 7, 3, 51), (51, .iconst 1, 1, 52), (52, .goto 4, 3, 55), (55, .iconst 0, 1, 56), (56, .putfield 95, 3, 59), (59, .aload_n 0, 1, 60), (60, .getfield 95, 3, 63), (63, .ifCond .gt 22, 3, 66), (66, .aload_n 0, 1, 67), (67, .getfield 35, 3, 70), (70, .bipush 10, 2, 72), (72, .iload_n 1, 1, 73), (73, .imul, 1, 74), (74, .iload_n 2, 1, 75), (75, .iadd, 1, 76), (76, .iaload, 1, 77), (77, .iload_n 3, 1, 78), (78, .ishr, 1, 79), (79, .iconst 1, 1, 80), (80, .iand, 1, 81), (81, .iconst 1, 1, 82), (82, .if_icmp .ne 5, 3, 85), (85, .iconst 0, 1, 86), (86, .ireturn, 1, 87), (87, .aload_n 0, 1, 88), (88, .iload_n 2, 1, 89), (89, .iload_n 3, 1, 90), (90, .if_icmp .eq 17, 3, 93), (93, .aload_n 0, 1, 94), (94, .iload_n 1, 1, 95), (95, .iload_n 3, 1, 96), (96, .invokevirtual 122, 3, 99), (99, .iload_n 2, 1, 100), (100, .ishr, 1, 101)]
theorem dt_Md_edge_0 : ev_dall m_Md_edge tb_Md_edge_0 := by decide +kernel
def tb_Md_edge_1 : ev_tab := [(101, .iconst 1, 1, 102), (102, .iand, 1, 103), (103, .iconst 1, 1, 104), (104, .if_icmp .ne 7, 3, 107), (107, .iconst 2, 1, 108), (108, .goto 4, 3, 111), (111, .iconst 0, 1, 112), (112, .putfield 95, 3, 115), (115, .aload_n 0, 1, 116), (116, .getfield 95, 3, 119), (119, .ifCond .le 5, 3, 122), (122, .iconst 0, 1, 123), (123, .ireturn, 1, 124), (124, .aload_n 0, 1, 125), (125, .getfield 35, 3, 128), (128, .bipush 10, 2, 130), (130, .iload_n 1, 1, 131), (131, .imul, 1, 132), (132, .iload_n 2, 1, 133), (133, .iadd, 1, 134), (134, .aload_n 0, 1, 135), (135, .getfield 35, 3, 138), (138, .bipush 10, 2, 140), (140, .iload_n 1, 1, 141), (141, .imul, 1, 142), (142, .iload_n 2, 1, 143), (143, .iadd, 1, 144), (144, .iaload, 1, 145), (145, .iconst 1, 1, 146), (146, .iload_n 3, 1, 147), (147, .ishl, 1, 148), (148, .ior, 1, 149), (149, .iastore, 1, 150), (150, .iconst 1, 1, 151), (151, .ireturn, 1, 152)]
theorem dt_Md_edge_1 : ev_dall m_Md_edge tb_Md_edge_1 := by decide +kernel
def tb_Md_reached_0 : ev_tab := [(0, .aload_n 0, 1, 1), (1, .getfield 35, 3, 4), (4, .bipush 10, 2, 6), (6, .iload_n 1, 1, 7), (7, .imul, 1, 8), (8, .iload_n 2, 1, 9), (9, .iadd, 1, 10), (10, .iaload, 1, 11), (11, .istore_n 3, 1, 12), (12, .iconst 0, 1, 13), (13, .istore 4, 2, 15), (15, .iload 4, 2, 17), (17, .bipush 10, 2, 19), (19, .if_icmp .ge 54, 3, 22), (22, .iconst 0, 1, 23), (23, .istore 5, 2, 25), (25, .iload 5, 2, 27), (27, .bipush 10, 2, 29), (29, .if_icmp .ge 38, 3, 32), (32, .iload_n 3, 1, 33), (33, .iload 5, 2, 35), (35, .ishr, 1, 36), (36, .iconst 1, 1, 37), (37, .iand, 1, 38), (38, .iconst 1, 1, 39), (39, .if_icmp .ne 20, 3, 42), (42, .iload_n 3, 1, 43), (43, .aload_n 0, 1, 44), (44, .getfield 35, 3, 47), (47, .bipush 10, 2, 49), (49, .iload_n 1, 1, 50), (50, .imul, 1, 51), (51, .iload 5, 2, 53), (53, .iadd, 1, 54), (54, .iaload, 1, 55), (55, .ior, 1, 56), (56, .goto 4, 3, 59), (59, .iload_n 3, 1, 60), (60, .istore_n 3, 1, 61), (61, .iinc 5 1, 3, 64), (64, .goto (-39), 3, 67), (67, .iinc 4 1, 3, 70), (70, .goto (-55), 3, 73), (73, .iload_n 3, 1, 74), (74, .ireturn, 1, 75)]
theorem dt_Md_reached_0 : ev_dall m_Md_reached tb_Md_reached_0 := by decide +kernel
def tb_Md_term_0 : ev_tab := [(0, .aload_n 0, 1, 1), (1, .iload_n 1, 1, 2), (2, .bipush 6, 2, 4), (4, .if_icmp .lt 31, 3, 7), (7, .iload_n 1, 1, 8), (8, .bipush 9, 2, 10), (10, .if_icmp .gt 25, 3, 13), (13, .aload_n 0, 1, 14), (14, .iload_n 2, 1, 15), (15, .invokevirtual 116, 3, 18), (18, .ifCond .eq 17, 3, 21), (21, .iload_n 1, 1, 22), (22, .bipush 9, 2, 24), (24, .if_icmp .ge 15, 3, 27), (27, .aload_n 0, 1, 28), (28, .iload_n 3, 1, 29), (29, .invokevirtual 116, 3, 32), (32, .ifCond .ne 7, 3, 35), (35, .iconst 1, 1, 36), (36, .goto 17, 3, 39), (39, .aload_n 0, 1, 40), (40, .getfield 102, 3, 43), (43, .bipush 24, 2, 45), (45, .if_icmp .ne 7, 3, 48), (48, .iconst 2, 1, 49), (49, .goto 4, 3, 52), (52, .iconst 0, 1, 53), (53, .putfield 95, 3, 56), (56, .aload_n 0, 1, 57), (57, .getfield 95, 3, 60), (60, .ifCond .le 5, 3, 63), (63, .iconst 0, 1, 64), (64, .ireturn, 1, 65), (65, .iconst 1, 1, 66), (66, .aload_n 0, 1, 67), (67, .getfield 29, 3, 70), (70, .iload_n 2, 1, 71), (71, .iaload, 1, 72), (72, .iadd, 1, 73), (73, .iload_n 1, 1, 74), (74, .bipush 9, 2, 76), (76, .if_icmp .ge 22, 3, 79), (79, .aload_n 0, 1, 80), (80, .getfield 29, 3, 83), (83, .iload_n 1, 1, 84), (84, .bipush 9, 2, 86), (86, .if_icmp .ge 7, 3, 89), (89, .iload_n 3, 1, 90), (90, .goto 4, 3, 93), (93, .iload_n 2, 1, 94), (94, .iaload, 1, 95), (95, .goto 4, 3, 98), (98, .iconst 0, 1, 99), (99, .iadd, 1, 100), (100, .istore 4, 2, 102), (102, .aload_n 0, 1, 103), (103, .iload 4, 2, 105), (105, .bipush 40, 2, 107), (107, .if_icmp .le 7, 3, 110), (110, .iconst 2, 1, 111)]
theorem dt_Md_term_0 : ev_dall m_Md_term tb_Md_term_0 := by decide +kernel
def tb_Md_term_1 : ev_tab := [(111, .goto 4, 3, 114), (114, .iconst 0, 1, 115), (115, .putfield 95, 3, 118), (118, .aload_n 0, 1, 119), (119, .getfield 95, 3, 122), (122, .ifCond .le 5, 3, 125), (125, .iconst 0, 1, 126), (126, .ireturn, 1, 127), (127, .aload_n 0, 1, 128), (128, .getfield 17, 3, 131), (131, .aload_n 0, 1, 132), (132, .getfield 102, 3, 135), (135, .iload_n 1, 1, 136), (136, .iastore, 1, 137), (137, .aload_n 0, 1, 138), (138, .getfield 23, 3, 141), (141, .aload_n 0, 1, 142), (142, .getfield 102, 3, 145), (145, .iload_n 2, 1, 146), (146, .iastore, 1, 147), (147, .aload_n 0, 1, 148), (148, .getfield 26, 3, 151), (151, .aload_n 0, 1, 152), (152, .getfield 102, 3, 155), (155, .iload_n 1, 1, 156), (156, .bipush 9, 2, 158), (158, .if_icmp .ge 7, 3, 161), (161, .iload_n 3, 1, 162), (162, .goto 4, 3, 165), (165, .iload_n 2, 1, 166), (166, .iastore, 1, 167), (167, .aload_n 0, 1, 168), (168, .getfield 29, 3, 171), (171, .aload_n 0, 1, 172), (172, .getfield 102, 3, 175), (175, .iload 4, 2, 177), (177, .iastore, 1, 178), (178, .aload_n 0, 1, 179), (179, .dup, 1, 180), (180, .getfield 102, 3, 183), (183, .iconst 1, 1, 184), (184, .iadd, 1, 185), (185, .putfield 102, 3, 188), (188, .aload_n 0, 1, 189), (189, .getfield 102, 3, 192), (192, .iconst 1, 1, 193), (193, .isub, 1, 194), (194, .ireturn, 1, 195)]
theorem dt_Md_term_1 : ev_dall m_Md_term tb_Md_term_1 := by decide +kernel
def tb_Md_compare_0 : ev_tab := [(0, .aload_n 0, 1, 1), (1, .aload_n 0, 1, 2), (2, .iload_n 1, 1, 3), (3, .invokevirtual 116, 3, 6), (6, .ifCond .eq 23, 3, 9), (9, .aload_n 0, 1, 10), (10, .iload_n 2, 1, 11), (11, .invokevirtual 109, 3, 14), (14, .ifCond .eq 15, 3, 17), (17, .aload_n 0, 1, 18), (18, .iload_n 3, 1, 19), (19, .invokevirtual 109, 3, 22), (22, .ifCond .eq 7, 3, 25), (25, .iconst 0, 1, 26), (26, .goto 4, 3, 29), (29, .iconst 1, 1, 30), (30, .putfield 95, 3, 33), (33, .aload_n 0, 1, 34), (34, .getfield 95, 3, 37), (37, .ifCond .le 7, 3, 40), (40, .iconst 0, 1, 41), (41, .goto 10, 3, 44), (44, .aload_n 0, 1, 45), (45, .iload_n 1, 1, 46), (46, .iload_n 2, 1, 47), (47, .iload_n 3, 1, 48), (48, .invokevirtual 152, 3, 51), (51, .ireturn, 1, 52)]
theorem dt_Md_compare_0 : ev_dall m_Md_compare tb_Md_compare_0 := by decide +kernel
def tb_Md_say_0 : ev_tab := [(0, .iconst 0, 1, 1), (1, .istore 4, 2, 3), (3, .iload 4, 2, 5), (5, .iload_n 1, 1, 6), (6, .if_icmp .gt 106, 3, 9), (9, .aload_n 0, 1, 10), (10, .getfield 17, 3, 13), (13, .iload 4, 2, 15), (15, .iaload, 1, 16), (16, .bipush 6, 2, 18), (18, .if_icmp .ge 51, 3, 21), (21, .aload_n 0, 1, 22), (22, .getfield 38, 3, 25), (25, .iload 4, 2, 27), (27, .aload_n 0, 1, 28), (28, .iload 4, 2, 30), (30, .aload_n 0, 1, 31), (31, .getfield 13, 3, 34), (34, .iconst 4, 1, 35), (35, .iload_n 2, 1, 36), (36, .imul, 1, 37), (37, .aload_n 0, 1, 38), (38, .getfield 20, 3, 41), (41, .iload 4, 2, 43), (43, .iaload, 1, 44), (44, .iadd, 1, 45), (45, .iaload, 1, 46), (46, .aload_n 0, 1, 47), (47, .getfield 13, 3, 50), (50, .iconst 4, 1, 51), (51, .iload_n 3, 1, 52), (52, .imul, 1, 53), (53, .aload_n 0, 1, 54), (54, .getfield 20, 3, 57), (57, .iload 4, 2, 59), (59, .iaload, 1, 60), (60, .iadd, 1, 61), (61, .iaload, 1, 62), (62, .invokevirtual 146, 3, 65), (65, .iastore, 1, 66), (66, .goto 40, 3, 69), (69, .aload_n 0, 1, 70), (70, .getfield 38, 3, 73), (73, .iload 4, 2, 75), (75, .aload_n 0, 1, 76), (76, .iload 4, 2, 78), (78, .aload_n 0, 1, 79), (79, .getfield 38, 3, 82), (82, .aload_n 0, 1, 83), (83, .getfield 23, 3, 86), (86, .iload 4, 2, 88), (88, .iaload, 1, 89), (89, .iaload, 1, 90), (90, .aload_n 0, 1, 91), (91, .getfield 38, 3, 94), (94, .aload_n 0, 1, 95), (95, .getfield 26, 3, 98), (98, .iload 4, 2, 100), (100, .iaload, 1, 101), (101, .iaload, 1, 102)]
theorem dt_Md_say_0 : ev_dall m_Md_say tb_Md_say_0 := by decide +kernel
def tb_Md_say_1 : ev_tab := [(102, .invokevirtual 149, 3, 105), (105, .iastore, 1, 106), (106, .iinc 4 1, 3, 109), (109, .goto (-106), 3, 112), (112, .aload_n 0, 1, 113), (113, .getfield 38, 3, 116), (116, .iload_n 1, 1, 117), (117, .iaload, 1, 118), (118, .ireturn, 1, 119)]
theorem dt_Md_say_1 : ev_dall m_Md_say tb_Md_say_1 := by decide +kernel
def tb_Md_ordered_0 : ev_tab := [(0, .iload_n 2, 1, 1), (1, .iload_n 3, 1, 2), (2, .if_icmp .ne 5, 3, 5), (5, .iconst 3, 1, 6), (6, .ireturn, 1, 7), (7, .aload_n 0, 1, 8), (8, .getfield 17, 3, 11), (11, .iload_n 1, 1, 12), (12, .iaload, 1, 13), (13, .tableswitch 79 0 5 #[39, 47, 79, 79, 55, 71], 39, 52), (52, .iload_n 2, 1, 53), (53, .i2l, 1, 54), (54, .iload_n 3, 1, 55), (55, .i2l, 1, 56), (56, .invokestatic 128, 3, 59), (59, .ireturn, 1, 60), (60, .iload_n 3, 1, 61), (61, .i2l, 1, 62), (62, .iload_n 2, 1, 63), (63, .i2l, 1, 64), (64, .invokestatic 128, 3, 67), (67, .ireturn, 1, 68), (68, .aload_n 0, 1, 69), (69, .iload_n 1, 1, 70), (70, .iload_n 2, 1, 71), (71, .invokevirtual 132, 3, 74), (74, .aload_n 0, 1, 75), (75, .iload_n 1, 1, 76), (76, .iload_n 3, 1, 77), (77, .invokevirtual 132, 3, 80), (80, .invokestatic 128, 3, 83), (83, .ireturn, 1, 84), (84, .aload_n 0, 1, 85), (85, .iload_n 1, 1, 86), (86, .iload_n 2, 1, 87), (87, .iload_n 3, 1, 88), (88, .invokevirtual 136, 3, 91), (91, .ireturn, 1, 92), (92, .aload_n 0, 1, 93), (93, .iload_n 1, 1, 94), (94, .iload_n 2, 1, 95), (95, .invokevirtual 140, 3, 98), (98, .aload_n 0, 1, 99), (99, .iload_n 1, 1, 100), (100, .iload_n 3, 1, 101), (101, .invokevirtual 140, 3, 104), (104, .invokestatic 128, 3, 107), (107, .ireturn, 1, 108)]
theorem dt_Md_ordered_0 : ev_dall m_Md_ordered tb_Md_ordered_0 := by decide +kernel
def tb_Md_byLess_0 : ev_tab := [(0, .lload_n 0, 1, 1), (1, .lload_n 2, 1, 2), (2, .lcmp, 1, 3), (3, .ifCond .ge 7, 3, 6), (6, .iconst 1, 1, 7), (7, .goto 14, 3, 10), (10, .lload_n 0, 1, 11), (11, .lload_n 2, 1, 12), (12, .lcmp, 1, 13), (13, .ifCond .le 7, 3, 16), (16, .iconst 2, 1, 17), (17, .goto 4, 3, 20), (20, .iconst 0, 1, 21), (21, .ireturn, 1, 22)]
theorem dt_Md_byLess_0 : ev_dall m_Md_byLess tb_Md_byLess_0 := by decide +kernel
def tb_Md_depth_0 : ev_tab := [(0, .iload_n 2, 1, 1), (1, .invokestatic 119, 3, 4), (4, .ifCond .eq 28, 3, 7), (7, .aload_n 0, 1, 8), (8, .getfield 32, 3, 11), (11, .bipush 10, 2, 13), (13, .iload_n 1, 1, 14), (14, .imul, 1, 15), (15, .iload_n 2, 1, 16), (16, .invokestatic 119, 3, 19), (19, .ifCond .eq 7, 3, 22), (22, .iload_n 2, 1, 23), (23, .goto 4, 3, 26), (26, .iconst 0, 1, 27), (27, .iadd, 1, 28), (28, .iaload, 1, 29), (29, .goto 4, 3, 32), (32, .iconst (-1), 1, 33), (33, .istore_n 3, 1, 34), (34, .iload_n 3, 1, 35), (35, .ifCond .ge 9, 3, 38), (38, .ldc2_w 126, 3, 41), (41, .goto 5, 3, 44), (44, .iload_n 3, 1, 45), (45, .i2l, 1, 46), (46, .lreturn, 1, 47)]
theorem dt_Md_depth_0 : ev_dall m_Md_depth tb_Md_depth_0 := by decide +kernel
def tb_Md_graph_0 : ev_tab := [(0, .iload_n 2, 1, 1), (1, .invokestatic 119, 3, 4), (4, .ifCond .eq 10, 3, 7), (7, .iload_n 3, 1, 8), (8, .invokestatic 119, 3, 11), (11, .ifCond .ne 5, 3, 14), (14, .iconst 0, 1, 15), (15, .ireturn, 1, 16), (16, .aload_n 0, 1, 17), (17, .iload_n 1, 1, 18), (18, .iload_n 2, 1, 19), (19, .invokevirtual 122, 3, 22), (22, .iload_n 3, 1, 23), (23, .ishr, 1, 24), (24, .iconst 1, 1, 25), (25, .iand, 1, 26), (26, .iconst 1, 1, 27), (27, .if_icmp .ne 7, 3, 30), (30, .iconst 1, 1, 31), (31, .goto 22, 3, 34), (34, .aload_n 0, 1, 35), (35, .iload_n 1, 1, 36), (36, .iload_n 3, 1, 37), (37, .invokevirtual 122, 3, 40), (40, .iload_n 2, 1, 41), (41, .ishr, 1, 42), (42, .iconst 1, 1, 43), (43, .iand, 1, 44), (44, .iconst 1, 1, 45), (45, .if_icmp .ne 7, 3, 48), (48, .iconst 2, 1, 49), (49, .goto 4, 3, 52), (52, .iconst 0, 1, 53), (53, .ireturn, 1, 54)]
theorem dt_Md_graph_0 : ev_dall m_Md_graph tb_Md_graph_0 := by decide +kernel
def tb_Md_distance_0 : ev_tab := [(0, .aload_n 0, 1, 1), (1, .getfield 23, 3, 4), (4, .iload_n 1, 1, 5), (5, .iaload, 1, 6), (6, .i2l, 1, 7), (7, .lstore_n 3, 1, 8), (8, .aload_n 0, 1, 9), (9, .getfield 17, 3, 12), (12, .iload_n 1, 1, 13), (13, .iaload, 1, 14), (14, .iconst 2, 1, 15), (15, .if_icmp .ne 13, 3, 18), (18, .aload_n 0, 1, 19), (19, .getfield 23, 3, 22), (22, .iload_n 1, 1, 23), (23, .iaload, 1, 24), (24, .i2l, 1, 25), (25, .goto 10, 3, 28), (28, .aload_n 0, 1, 29), (29, .getfield 26, 3, 32), (32, .iload_n 1, 1, 33), (33, .iaload, 1, 34), (34, .i2l, 1, 35), (35, .lstore 5, 2, 37), (37, .iload_n 2, 1, 38), (38, .i2l, 1, 39), (39, .lload_n 3, 1, 40), (40, .lcmp, 1, 41), (41, .ifCond .ge 10, 3, 44), (44, .lload_n 3, 1, 45), (45, .iload_n 2, 1, 46), (46, .i2l, 1, 47), (47, .lsub, 1, 48), (48, .goto 20, 3, 51), (51, .iload_n 2, 1, 52), (52, .i2l, 1, 53), (53, .lload 5, 2, 55), (55, .lcmp, 1, 56), (56, .ifCond .le 11, 3, 59), (59, .iload_n 2, 1, 60), (60, .i2l, 1, 61), (61, .lload 5, 2, 63), (63, .lsub, 1, 64), (64, .goto 4, 3, 67), (67, .lconst 0, 1, 68), (68, .lreturn, 1, 69)]
theorem dt_Md_distance_0 : ev_dall m_Md_distance tb_Md_distance_0 := by decide +kernel
def tb_Md_joined_0 : ev_tab := [(0, .aload_n 0, 1, 1), (1, .getfield 17, 3, 4), (4, .iload_n 1, 1, 5), (5, .iaload, 1, 6), (6, .istore 4, 2, 8), (8, .iload 4, 2, 10), (10, .bipush 9, 2, 12), (12, .if_icmp .ne 23, 3, 15), (15, .iload_n 2, 1, 16), (16, .iconst 1, 1, 17), (17, .if_icmp .ne 7, 3, 20), (20, .iconst 2, 1, 21), (21, .goto 13, 3, 24), (24, .iload_n 2, 1, 25), (25, .iconst 2, 1, 26), (26, .if_icmp .ne 7, 3, 29), (29, .iconst 1, 1, 30), (30, .goto 4, 3, 33), (33, .iload_n 2, 1, 34), (34, .ireturn, 1, 35), (35, .iload 4, 2, 37), (37, .bipush 6, 2, 39), (39, .if_icmp .ne 11, 3, 42), (42, .iload_n 2, 1, 43), (43, .iload_n 3, 1, 44), (44, .invokestatic 143, 3, 47), (47, .goto 33, 3, 50), (50, .iload 4, 2, 52), (52, .bipush 7, 2, 54), (54, .if_icmp .ne 16, 3, 57), (57, .iload_n 2, 1, 58), (58, .iconst 3, 1, 59), (59, .if_icmp .ne 7, 3, 62), (62, .iload_n 3, 1, 63), (63, .goto 17, 3, 66), (66, .iload_n 2, 1, 67), (67, .goto 13, 3, 70), (70, .iload_n 2, 1, 71), (71, .iload_n 3, 1, 72), (72, .if_icmp .ne 7, 3, 75), (75, .iload_n 2, 1, 76), (76, .goto 4, 3, 79), (79, .iconst 0, 1, 80), (80, .ireturn, 1, 81)]
theorem dt_Md_joined_0 : ev_dall m_Md_joined tb_Md_joined_0 := by decide +kernel
def tb_Md_pareto_0 : ev_tab := [(0, .iload_n 0, 1, 1), (1, .iconst 3, 1, 2), (2, .if_icmp .eq 8, 3, 5), (5, .iload_n 1, 1, 6), (6, .iconst 3, 1, 7), (7, .if_icmp .ne 14, 3, 10), (10, .iload_n 0, 1, 11), (11, .iconst 3, 1, 12), (12, .if_icmp .ne 7, 3, 15), (15, .iload_n 1, 1, 16), (16, .goto 4, 3, 19), (19, .iload_n 0, 1, 20), (20, .ireturn, 1, 21), (21, .iload_n 0, 1, 22), (22, .iload_n 1, 1, 23), (23, .if_icmp .ne 7, 3, 26), (26, .iload_n 0, 1, 27), (27, .goto 4, 3, 30), (30, .iconst 0, 1, 31), (31, .ireturn, 1, 32)]
theorem dt_Md_pareto_0 : ev_dall m_Md_pareto tb_Md_pareto_0 := by decide +kernel
def tb_Md_condition_0 : ev_tab := [(0, .aload_n 0, 1, 1), (1, .iload_n 1, 1, 2), (2, .invokestatic 113, 3, 5), (5, .ifCond .eq 12, 3, 8), (8, .iload_n 2, 1, 9), (9, .ifCond .lt 8, 3, 12), (12, .iload_n 2, 1, 13), (13, .iconst 5, 1, 14), (14, .if_icmp .le 7, 3, 17), (17, .iconst 1, 1, 18), (18, .goto 18, 3, 21), (21, .aload_n 0, 1, 22), (22, .getfield 41, 3, 25), (25, .iconst 4, 1, 26), (26, .iaload, 1, 27), (27, .iconst 4, 1, 28), (28, .if_icmp .ne 7, 3, 31), (31, .iconst 2, 1, 32), (32, .goto 4, 3, 35), (35, .iconst 0, 1, 36), (36, .putfield 95, 3, 39), (39, .aload_n 0, 1, 40), (40, .getfield 95, 3, 43), (43, .ifCond .le 5, 3, 46), (46, .iconst 0, 1, 47), (47, .ireturn, 1, 48), (48, .bipush 16, 2, 50), (50, .aload_n 0, 1, 51), (51, .getfield 41, 3, 54), (54, .iconst 4, 1, 55), (55, .iaload, 1, 56), (56, .iadd, 1, 57), (57, .istore 4, 2, 59), (59, .aload_n 0, 1, 60), (60, .getfield 44, 3, 63), (63, .iload 4, 2, 65), (65, .iload_n 1, 1, 66), (66, .iastore, 1, 67), (67, .aload_n 0, 1, 68), (68, .getfield 47, 3, 71), (71, .iload 4, 2, 73), (73, .iload_n 2, 1, 74), (74, .iastore, 1, 75), (75, .aload_n 0, 1, 76), (76, .getfield 50, 3, 79), (79, .iload 4, 2, 81), (81, .iload_n 3, 1, 82), (82, .iastore, 1, 83), (83, .aload_n 0, 1, 84), (84, .getfield 41, 3, 87), (87, .iconst 4, 1, 88), (88, .dup2, 1, 89), (89, .iaload, 1, 90), (90, .iconst 1, 1, 91), (91, .iadd, 1, 92), (92, .iastore, 1, 93), (93, .aload_n 0, 1, 94), (94, .getfield 41, 3, 97), (97, .iconst 4, 1, 98), (98, .iaload, 1, 99)]
theorem dt_Md_condition_0 : ev_dall m_Md_condition tb_Md_condition_0 := by decide +kernel
def tb_Md_condition_1 : ev_tab := [(99, .ireturn, 1, 100)]
theorem dt_Md_condition_1 : ev_dall m_Md_condition tb_Md_condition_1 := by decide +kernel
def tb_Md_free_0 : ev_tab := [(0, .aload_n 0, 1, 1), (1, .iconst 0, 1, 2), (2, .putfield 95, 3, 5), (5, .aload_n 0, 1, 6), (6, .getfield 41, 3, 9), (9, .iconst 4, 1, 10), (10, .iconst 0, 1, 11), (11, .iastore, 1, 12), (12, .return_, 1, 13)]
theorem dt_Md_free_0 : ev_dall m_Md_free tb_Md_free_0 := by decide +kernel
def tb_Md_best_0 : ev_tab := [(0, .aload_n 0, 1, 1), (1, .aload_n 0, 1, 2), (2, .iload_n 1, 1, 3), (3, .invokevirtual 116, 3, 6), (6, .ifCond .eq 7, 3, 9), (9, .iconst 0, 1, 10), (10, .goto 4, 3, 13), (13, .iconst 1, 1, 14), (14, .putfield 95, 3, 17), (17, .aload_n 0, 1, 18), (18, .getfield 95, 3, 21), (21, .ifCond .le 5, 3, 24), (24, .iconst 0, 1, 25), (25, .ireturn, 1, 26), (26, .aload_n 0, 1, 27), (27, .iload_n 1, 1, 28), (28, .iconst 4, 1, 29), (29, .iconst 4, 1, 30), (30, .invokevirtual 166, 3, 33), (33, .istore_n 2, 1, 34), (34, .aload_n 0, 1, 35), (35, .invokevirtual 169, 3, 38), (38, .ireturn, 1, 39)]
theorem dt_Md_best_0 : ev_dall m_Md_best tb_Md_best_0 := by decide +kernel
def tb_Md_mark_0 : ev_tab := [(0, .iconst 0, 1, 1), (1, .istore 4, 2, 3), (3, .iconst 0, 1, 4), (4, .istore 5, 2, 6), (6, .iload 5, 2, 8), (8, .aload_n 0, 1, 9), (9, .getfield 99, 3, 12), (12, .if_icmp .ge 166, 3, 15), (15, .aload_n 0, 1, 16), (16, .getfield 62, 3, 19), (19, .iload 5, 2, 21), (21, .aload_n 0, 1, 22), (22, .iload_n 2, 1, 23), (23, .iload 5, 2, 25), (25, .invokevirtual 159, 3, 28), (28, .bastore, 1, 29), (29, .iconst 0, 1, 30), (30, .istore 6, 2, 32), (32, .iload 6, 2, 34), (34, .aload_n 0, 1, 35), (35, .getfield 99, 3, 38), (38, .if_icmp .ge 114, 3, 41), (41, .aload_n 0, 1, 42), (42, .getfield 62, 3, 45), (45, .iload 5, 2, 47), (47, .baload, 1, 48), (48, .ifCond .eq 104, 3, 51), (51, .aload_n 0, 1, 52), (52, .iload_n 2, 1, 53), (53, .iload 6, 2, 55), (55, .invokevirtual 159, 3, 58), (58, .ifCond .eq 55, 3, 61), (61, .iload_n 3, 1, 62), (62, .iconst 3, 1, 63), (63, .if_icmp .gt 46, 3, 66), (66, .aload_n 0, 1, 67), (67, .getfield 13, 3, 70), (70, .iconst 4, 1, 71), (71, .iload 6, 2, 73), (73, .imul, 1, 74), (74, .iload_n 3, 1, 75), (75, .iconst 3, 1, 76), (76, .if_icmp .le 7, 3, 79), (79, .iconst 0, 1, 80), (80, .goto 4, 3, 83), (83, .iload_n 3, 1, 84), (84, .iadd, 1, 85), (85, .iaload, 1, 86), (86, .aload_n 0, 1, 87), (87, .getfield 13, 3, 90), (90, .iconst 4, 1, 91), (91, .iload 5, 2, 93), (93, .imul, 1, 94), (94, .iload_n 3, 1, 95), (95, .iconst 3, 1, 96), (96, .if_icmp .le 7, 3, 99), (99, .iconst 0, 1, 100), (100, .goto 4, 3, 103), (103, .iload_n 3, 1, 104), (104, .iadd, 1, 105)]
theorem dt_Md_mark_0 : ev_dall m_Md_mark tb_Md_mark_0 := by decide +kernel
def tb_Md_mark_1 : ev_tab := [(105, .iaload, 1, 106), (106, .if_icmp .ne 7, 3, 109), (109, .iconst 1, 1, 110), (110, .goto 4, 3, 113), (113, .iconst 0, 1, 114), (114, .istore 7, 2, 116), (116, .aload_n 0, 1, 117), (117, .getfield 62, 3, 120), (120, .iload 5, 2, 122), (122, .iload 7, 2, 124), (124, .ifCond .eq 16, 3, 127), (127, .aload_n 0, 1, 128), (128, .iload_n 1, 1, 129), (129, .iload 6, 2, 131), (131, .iload 5, 2, 133), (133, .invokevirtual 152, 3, 136), (136, .iconst 1, 1, 137), (137, .if_icmp .eq 7, 3, 140), (140, .iconst 1, 1, 141), (141, .goto 4, 3, 144), (144, .iconst 0, 1, 145), (145, .bastore, 1, 146), (146, .iinc 6 1, 3, 149), (149, .goto (-117), 3, 152), (152, .iload 4, 2, 154), (154, .aload_n 0, 1, 155), (155, .getfield 62, 3, 158), (158, .iload 5, 2, 160), (160, .baload, 1, 161), (161, .ifCond .eq 7, 3, 164), (164, .iconst 1, 1, 165), (165, .goto 4, 3, 168), (168, .iconst 0, 1, 169), (169, .iadd, 1, 170), (170, .istore 4, 2, 172), (172, .iinc 5 1, 3, 175), (175, .goto (-169), 3, 178), (178, .iload 4, 2, 180), (180, .ireturn, 1, 181)]
theorem dt_Md_mark_1 : ev_dall m_Md_mark tb_Md_mark_1 := by decide +kernel
def tb_Md_passes_0 : ev_tab := [(0, .aload_n 0, 1, 1), (1, .getfield 7, 3, 4), (4, .iload_n 2, 1, 5), (5, .baload, 1, 6), (6, .istore_n 3, 1, 7), (7, .iconst 4, 1, 8), (8, .iload_n 1, 1, 9), (9, .imul, 1, 10), (10, .istore 4, 2, 12), (12, .iload 4, 2, 14), (14, .iconst 4, 1, 15), (15, .iload_n 1, 1, 16), (16, .imul, 1, 17), (17, .aload_n 0, 1, 18), (18, .getfield 41, 3, 21), (21, .iload_n 1, 1, 22), (22, .iaload, 1, 23), (23, .iadd, 1, 24), (24, .if_icmp .ge 55, 3, 27), (27, .iload_n 3, 1, 28), (28, .ifCond .eq 43, 3, 31), (31, .aload_n 0, 1, 32), (32, .getfield 47, 3, 35), (35, .iload 4, 2, 37), (37, .iaload, 1, 38), (38, .aload_n 0, 1, 39), (39, .getfield 13, 3, 42), (42, .iconst 4, 1, 43), (43, .iload_n 2, 1, 44), (44, .imul, 1, 45), (45, .aload_n 0, 1, 46), (46, .getfield 44, 3, 49), (49, .iload 4, 2, 51), (51, .iaload, 1, 52), (52, .iadd, 1, 53), (53, .iaload, 1, 54), (54, .aload_n 0, 1, 55), (55, .getfield 50, 3, 58), (58, .iload 4, 2, 60), (60, .iaload, 1, 61), (61, .invokestatic 155, 3, 64), (64, .ifCond .eq 7, 3, 67), (67, .iconst 1, 1, 68), (68, .goto 4, 3, 71), (71, .iconst 0, 1, 72), (72, .istore_n 3, 1, 73), (73, .iinc 4 1, 3, 76), (76, .goto (-64), 3, 79), (79, .iload_n 3, 1, 80), (80, .ireturn, 1, 81)]
theorem dt_Md_passes_0 : ev_dall m_Md_passes tb_Md_passes_0 := by decide +kernel
def tb_Md_holds_0 : ev_tab := [(0, .iload_n 0, 1, 1), (1, .ifCond .ne 16, 3, 4), (4, .iload_n 1, 1, 5), (5, .iload_n 2, 1, 6), (6, .if_icmp .ne 7, 3, 9), (9, .iconst 1, 1, 10), (10, .goto 89, 3, 13), (13, .iconst 0, 1, 14), (14, .goto 85, 3, 17), (17, .iload_n 0, 1, 18), (18, .iconst 1, 1, 19), (19, .if_icmp .ne 16, 3, 22), (22, .iload_n 1, 1, 23), (23, .iload_n 2, 1, 24), (24, .if_icmp .eq 7, 3, 27), (27, .iconst 1, 1, 28), (28, .goto 71, 3, 31), (31, .iconst 0, 1, 32), (32, .goto 67, 3, 35), (35, .iload_n 0, 1, 36), (36, .iconst 2, 1, 37), (37, .if_icmp .ne 16, 3, 40), (40, .iload_n 1, 1, 41), (41, .iload_n 2, 1, 42), (42, .if_icmp .ge 7, 3, 45), (45, .iconst 1, 1, 46), (46, .goto 53, 3, 49), (49, .iconst 0, 1, 50), (50, .goto 49, 3, 53), (53, .iload_n 0, 1, 54), (54, .iconst 3, 1, 55), (55, .if_icmp .ne 16, 3, 58), (58, .iload_n 1, 1, 59), (59, .iload_n 2, 1, 60), (60, .if_icmp .gt 7, 3, 63), (63, .iconst 1, 1, 64), (64, .goto 35, 3, 67), (67, .iconst 0, 1, 68), (68, .goto 31, 3, 71), (71, .iload_n 0, 1, 72), (72, .iconst 4, 1, 73), (73, .if_icmp .ne 16, 3, 76), (76, .iload_n 1, 1, 77), (77, .iload_n 2, 1, 78), (78, .if_icmp .le 7, 3, 81), (81, .iconst 1, 1, 82), (82, .goto 17, 3, 85), (85, .iconst 0, 1, 86), (86, .goto 13, 3, 89), (89, .iload_n 1, 1, 90), (90, .iload_n 2, 1, 91), (91, .if_icmp .lt 7, 3, 94), (94, .iconst 1, 1, 95), (95, .goto 4, 3, 98), (98, .iconst 0, 1, 99), (99, .ireturn, 1, 100)]
theorem dt_Md_holds_0 : ev_dall m_Md_holds tb_Md_holds_0 := by decide +kernel
def tb_Md_answerBest_0 : ev_tab := [(0, .aload_n 0, 1, 1), (1, .iconst 0, 1, 2), (2, .putfield 163, 3, 5), (5, .iconst 0, 1, 6), (6, .istore_n 1, 1, 7), (7, .iload_n 1, 1, 8), (8, .aload_n 0, 1, 9), (9, .getfield 99, 3, 12), (12, .if_icmp .ge 38, 3, 15), (15, .aload_n 0, 1, 16), (16, .getfield 62, 3, 19), (19, .iload_n 1, 1, 20), (20, .baload, 1, 21), (21, .ifCond .eq 23, 3, 24), (24, .aload_n 0, 1, 25), (25, .getfield 68, 3, 28), (28, .aload_n 0, 1, 29), (29, .getfield 163, 3, 32), (32, .iload_n 1, 1, 33), (33, .iastore, 1, 34), (34, .aload_n 0, 1, 35), (35, .dup, 1, 36), (36, .getfield 163, 3, 39), (39, .iconst 1, 1, 40), (40, .iadd, 1, 41), (41, .putfield 163, 3, 44), (44, .iinc 1 1, 3, 47), (47, .goto (-40), 3, 50), (50, .aload_n 0, 1, 51), (51, .getfield 163, 3, 54), (54, .ireturn, 1, 55)]
theorem dt_Md_answerBest_0 : ev_dall m_Md_answerBest tb_Md_answerBest_0 := by decide +kernel
def tb_Md_grouped_0 : ev_tab := [(0, .aload_n 0, 1, 1), (1, .aload_n 0, 1, 2), (2, .iload_n 1, 1, 3), (3, .invokevirtual 116, 3, 6), (6, .ifCond .eq 14, 3, 9), (9, .iload_n 2, 1, 10), (10, .invokestatic 113, 3, 13), (13, .ifCond .eq 7, 3, 16), (16, .iconst 0, 1, 17), (17, .goto 4, 3, 20), (20, .iconst 1, 1, 21), (21, .putfield 95, 3, 24), (24, .aload_n 0, 1, 25), (25, .getfield 95, 3, 28), (28, .ifCond .le 5, 3, 31), (31, .iconst 0, 1, 32), (32, .ireturn, 1, 33), (33, .aload_n 0, 1, 34), (34, .iload_n 1, 1, 35), (35, .iconst 4, 1, 36), (36, .iload_n 2, 1, 37), (37, .invokevirtual 166, 3, 40), (40, .istore_n 3, 1, 41), (41, .aload_n 0, 1, 42), (42, .invokevirtual 169, 3, 45), (45, .ireturn, 1, 46)]
theorem dt_Md_grouped_0 : ev_dall m_Md_grouped tb_Md_grouped_0 := by decide +kernel
def tb_Md_top_0 : ev_tab := [(0, .aload_n 0, 1, 1), (1, .aload_n 0, 1, 2), (2, .iload_n 1, 1, 3), (3, .invokevirtual 116, 3, 6), (6, .ifCond .ne 7, 3, 9), (9, .iconst 1, 1, 10), (10, .goto 12, 3, 13), (13, .iload_n 2, 1, 14), (14, .ifCond .ge 7, 3, 17), (17, .iconst 2, 1, 18), (18, .goto 4, 3, 21), (21, .iconst 0, 1, 22), (22, .putfield 95, 3, 25), (25, .aload_n 0, 1, 26), (26, .getfield 95, 3, 29), (29, .ifCond .le 5, 3, 32), (32, .iconst 0, 1, 33), (33, .ireturn, 1, 34), (34, .aload_n 0, 1, 35), (35, .iload_n 1, 1, 36), (36, .invokevirtual 172, 3, 39), (39, .aload_n 0, 1, 40), (40, .iconst 0, 1, 41), (41, .putfield 163, 3, 44), (44, .iconst 1, 1, 45), (45, .istore_n 3, 1, 46), (46, .iload_n 3, 1, 47), (47, .bipush 24, 2, 49), (49, .if_icmp .gt 67, 3, 52), (52, .iconst 0, 1, 53), (53, .istore 4, 2, 55), (55, .iload 4, 2, 57), (57, .aload_n 0, 1, 58), (58, .getfield 99, 3, 61), (61, .if_icmp .ge 49, 3, 64), (64, .aload_n 0, 1, 65), (65, .getfield 163, 3, 68), (68, .iload_n 2, 1, 69), (69, .if_icmp .ge 41, 3, 72), (72, .aload_n 0, 1, 73), (73, .getfield 65, 3, 76), (76, .iload 4, 2, 78), (78, .iaload, 1, 79), (79, .iload_n 3, 1, 80), (80, .if_icmp .ne 24, 3, 83), (83, .aload_n 0, 1, 84), (84, .getfield 68, 3, 87), (87, .aload_n 0, 1, 88), (88, .getfield 163, 3, 91), (91, .iload 4, 2, 93), (93, .iastore, 1, 94), (94, .aload_n 0, 1, 95), (95, .dup, 1, 96), (96, .getfield 163, 3, 99), (99, .iconst 1, 1, 100), (100, .iadd, 1, 101), (101, .putfield 163, 3, 104), (104, .iinc 4 1, 3, 107), (107, .goto (-52), 3, 110), (110, .iinc 3 1, 3, 113)]
theorem dt_Md_top_0 : ev_dall m_Md_top tb_Md_top_0 := by decide +kernel
def tb_Md_top_1 : ev_tab := [(113, .goto (-67), 3, 116), (116, .aload_n 0, 1, 117), (117, .getfield 163, 3, 120), (120, .ireturn, 1, 121)]
theorem dt_Md_top_1 : ev_dall m_Md_top tb_Md_top_1 := by decide +kernel
def tb_Md_weigh_0 : ev_tab := [(0, .iconst 0, 1, 1), (1, .istore_n 2, 1, 2), (2, .iload_n 2, 1, 3), (3, .aload_n 0, 1, 4), (4, .getfield 99, 3, 7), (7, .if_icmp .ge 29, 3, 10), (10, .aload_n 0, 1, 11), (11, .getfield 65, 3, 14), (14, .iload_n 2, 1, 15), (15, .aload_n 0, 1, 16), (16, .iconst 4, 1, 17), (17, .iload_n 2, 1, 18), (18, .invokevirtual 159, 3, 21), (21, .ifCond .eq 7, 3, 24), (24, .iconst 1, 1, 25), (25, .goto 4, 3, 28), (28, .iconst 0, 1, 29), (29, .iastore, 1, 30), (30, .iinc 2 1, 3, 33), (33, .goto (-31), 3, 36), (36, .iconst 1, 1, 37), (37, .istore_n 2, 1, 38), (38, .iconst 0, 1, 39), (39, .istore_n 3, 1, 40), (40, .iload_n 3, 1, 41), (41, .bipush 25, 2, 43), (43, .if_icmp .ge 119, 3, 46), (46, .iload_n 2, 1, 47), (47, .ifCond .eq 115, 3, 50), (50, .iconst 0, 1, 51), (51, .istore_n 2, 1, 52), (52, .iconst 0, 1, 53), (53, .istore 4, 2, 55), (55, .iload 4, 2, 57), (57, .aload_n 0, 1, 58), (58, .getfield 99, 3, 61), (61, .if_icmp .ge 95, 3, 64), (64, .iconst 0, 1, 65), (65, .istore 5, 2, 67), (67, .iload 5, 2, 69), (69, .aload_n 0, 1, 70), (70, .getfield 99, 3, 73), (73, .if_icmp .ge 77, 3, 76), (76, .aload_n 0, 1, 77), (77, .getfield 65, 3, 80), (80, .iload 4, 2, 82), (82, .iaload, 1, 83), (83, .ifCond .le 67, 3, 86), (86, .aload_n 0, 1, 87), (87, .getfield 65, 3, 90), (90, .iload 5, 2, 92), (92, .iaload, 1, 93), (93, .ifCond .le 51, 3, 96), (96, .aload_n 0, 1, 97), (97, .getfield 65, 3, 100), (100, .iload 5, 2, 102), (102, .iaload, 1, 103), (103, .aload_n 0, 1, 104), (104, .getfield 65, 3, 107), (107, .iload 4, 2, 109)]
theorem dt_Md_weigh_0 : ev_dall m_Md_weigh tb_Md_weigh_0 := by decide +kernel
def tb_Md_weigh_1 : ev_tab := [(109, .iaload, 1, 110), (110, .if_icmp .gt 34, 3, 113), (113, .aload_n 0, 1, 114), (114, .iload_n 1, 1, 115), (115, .iload 4, 2, 117), (117, .iload 5, 2, 119), (119, .invokevirtual 152, 3, 122), (122, .iconst 1, 1, 123), (123, .if_icmp .ne 21, 3, 126), (126, .aload_n 0, 1, 127), (127, .getfield 65, 3, 130), (130, .iload 5, 2, 132), (132, .aload_n 0, 1, 133), (133, .getfield 65, 3, 136), (136, .iload 4, 2, 138), (138, .iaload, 1, 139), (139, .iconst 1, 1, 140), (140, .iadd, 1, 141), (141, .iastore, 1, 142), (142, .iconst 1, 1, 143), (143, .istore_n 2, 1, 144), (144, .iinc 5 1, 3, 147), (147, .goto (-80), 3, 150), (150, .iinc 4 1, 3, 153), (153, .goto (-98), 3, 156), (156, .iinc 3 1, 3, 159), (159, .goto (-119), 3, 162), (162, .return_, 1, 163)]
theorem dt_Md_weigh_1 : ev_dall m_Md_weigh tb_Md_weigh_1 := by decide +kernel
def tb_Md_level_0 : ev_tab := [(0, .aload_n 0, 1, 1), (1, .aload_n 0, 1, 2), (2, .iload_n 1, 1, 3), (3, .invokevirtual 116, 3, 6), (6, .ifCond .eq 15, 3, 9), (9, .aload_n 0, 1, 10), (10, .iload_n 2, 1, 11), (11, .invokevirtual 109, 3, 14), (14, .ifCond .eq 7, 3, 17), (17, .iconst 0, 1, 18), (18, .goto 4, 3, 21), (21, .iconst 1, 1, 22), (22, .putfield 95, 3, 25), (25, .aload_n 0, 1, 26), (26, .getfield 95, 3, 29), (29, .ifCond .le 5, 3, 32), (32, .iconst 0, 1, 33), (33, .ireturn, 1, 34), (34, .aload_n 0, 1, 35), (35, .iload_n 1, 1, 36), (36, .invokevirtual 172, 3, 39), (39, .aload_n 0, 1, 40), (40, .getfield 65, 3, 43), (43, .iload_n 2, 1, 44), (44, .iaload, 1, 45), (45, .ireturn, 1, 46)]
theorem dt_Md_level_0 : ev_dall m_Md_level tb_Md_level_0 := by decide +kernel
def tb_Md_answer_0 : ev_tab := [(0, .aload_n 0, 1, 1), (1, .iconst 0, 1, 2), (2, .putfield 95, 3, 5), (5, .iload_n 1, 1, 6), (6, .iconst (-1), 1, 7), (7, .if_icmp .ne 10, 3, 10), (10, .aload_n 0, 1, 11), (11, .getfield 163, 3, 14), (14, .goto 25, 3, 17), (17, .iload_n 1, 1, 18), (18, .ifCond .lt 11, 3, 21), (21, .iload_n 1, 1, 22), (22, .aload_n 0, 1, 23), (23, .getfield 163, 3, 26), (26, .if_icmp .lt 7, 3, 29), (29, .iconst (-1), 1, 30), (30, .goto 9, 3, 33), (33, .aload_n 0, 1, 34), (34, .getfield 68, 3, 37), (37, .iload_n 1, 1, 38), (38, .iaload, 1, 39), (39, .ireturn, 1, 40)]
theorem dt_Md_answer_0 : ev_dall m_Md_answer tb_Md_answer_0 := by decide +kernel
def tb_Md_reason_0 : ev_tab := [(0, .aload_n 0, 1, 1), (1, .aload_n 0, 1, 2), (2, .iload_n 1, 1, 3), (3, .invokevirtual 116, 3, 6), (6, .ifCond .eq 23, 3, 9), (9, .aload_n 0, 1, 10), (10, .iload_n 2, 1, 11), (11, .invokevirtual 109, 3, 14), (14, .ifCond .eq 15, 3, 17), (17, .aload_n 0, 1, 18), (18, .iload_n 3, 1, 19), (19, .invokevirtual 109, 3, 22), (22, .ifCond .eq 7, 3, 25), (25, .iconst 0, 1, 26), (26, .goto 4, 3, 29), (29, .iconst 1, 1, 30), (30, .putfield 95, 3, 33), (33, .aload_n 0, 1, 34), (34, .getfield 95, 3, 37), (37, .ifCond .le 5, 3, 40), (40, .iconst 0, 1, 41), (41, .ireturn, 1, 42), (42, .iload 4, 2, 44), (44, .ifCond .lt 20, 3, 47), (47, .iload 4, 2, 49), (49, .iconst 1, 1, 50), (50, .if_icmp .gt 14, 3, 53), (53, .aload_n 0, 1, 54), (54, .iload_n 1, 1, 55), (55, .iload_n 2, 1, 56), (56, .iload_n 3, 1, 57), (57, .invokevirtual 152, 3, 60), (60, .iconst 1, 1, 61), (61, .if_icmp .eq 5, 3, 64), (64, .iconst (-1), 1, 65), (65, .ireturn, 1, 66), (66, .iload_n 1, 1, 67), (67, .istore 5, 2, 69), (69, .iload_n 2, 1, 70), (70, .istore 6, 2, 72), (72, .iload_n 3, 1, 73), (73, .istore 7, 2, 75), (75, .iconst 1, 1, 76), (76, .istore 8, 2, 78), (78, .aload_n 0, 1, 79), (79, .getfield 17, 3, 82), (82, .iload 5, 2, 84), (84, .iaload, 1, 85), (85, .iconst 5, 1, 86), (86, .if_icmp .le 117, 3, 89), (89, .aload_n 0, 1, 90), (90, .aload_n 0, 1, 91), (91, .getfield 23, 3, 94), (94, .iload 5, 2, 96), (96, .iaload, 1, 97), (97, .iload 6, 2, 99), (99, .iload 7, 2, 101), (101, .invokevirtual 152, 3, 104), (104, .istore 9, 2, 106), (106, .aload_n 0, 1, 107)]
theorem dt_Md_reason_0 : ev_dall m_Md_reason tb_Md_reason_0 := by decide +kernel
def tb_Md_reason_1 : ev_tab := [(107, .getfield 17, 3, 110), (110, .iload 5, 2, 112), (112, .iaload, 1, 113), (113, .bipush 6, 2, 115), (115, .if_icmp .ne 9, 3, 118), (118, .iload 9, 2, 120), (120, .iconst 1, 1, 121), (121, .if_icmp .ne 21, 3, 124), (124, .aload_n 0, 1, 125), (125, .getfield 17, 3, 128), (128, .iload 5, 2, 130), (130, .iaload, 1, 131), (131, .bipush 7, 2, 133), (133, .if_icmp .ne 13, 3, 136), (136, .iload 9, 2, 138), (138, .iconst 3, 1, 139), (139, .if_icmp .ne 7, 3, 142), (142, .iconst 1, 1, 143), (143, .goto 4, 3, 146), (146, .iconst 0, 1, 147), (147, .istore 10, 2, 149), (149, .aload_n 0, 1, 150), (150, .getfield 17, 3, 153), (153, .iload 5, 2, 155), (155, .iaload, 1, 156), (156, .bipush 9, 2, 158), (158, .if_icmp .ne 15, 3, 161), (161, .iload 6, 2, 163), (163, .istore 11, 2, 165), (165, .iload 7, 2, 167), (167, .istore 6, 2, 169), (169, .iload 11, 2, 171), (171, .istore 7, 2, 173), (173, .iload 10, 2, 175), (175, .ifCond .eq 13, 3, 178), (178, .aload_n 0, 1, 179), (179, .getfield 26, 3, 182), (182, .iload 5, 2, 184), (184, .iaload, 1, 185), (185, .goto 10, 3, 188), (188, .aload_n 0, 1, 189), (189, .getfield 23, 3, 192), (192, .iload 5, 2, 194), (194, .iaload, 1, 195), (195, .istore 5, 2, 197), (197, .iinc 8 1, 3, 200), (200, .goto (-122), 3, 203), (203, .iload 4, 2, 205), (205, .ifCond .ne 8, 3, 208), (208, .iload 5, 2, 210), (210, .goto 5, 3, 213), (213, .iload 8, 2, 215), (215, .ireturn, 1, 216)]
theorem dt_Md_reason_1 : ev_dall m_Md_reason tb_Md_reason_1 := by decide +kernel
def tb_Md_save_0 : ev_tab := [(0, .aload_n 0, 1, 1), (1, .iload_n 1, 1, 2), (2, .ifCond .lt 20, 3, 5), (5, .iload_n 1, 1, 6), (6, .iconst 4, 1, 7), (7, .if_icmp .ge 15, 3, 10), (10, .aload_n 0, 1, 11), (11, .iload_n 2, 1, 12), (12, .invokevirtual 116, 3, 15), (15, .ifCond .eq 7, 3, 18), (18, .iconst 0, 1, 19), (19, .goto 4, 3, 22), (22, .iconst 1, 1, 23), (23, .putfield 95, 3, 26), (26, .aload_n 0, 1, 27), (27, .getfield 95, 3, 30), (30, .ifCond .le 5, 3, 33), (33, .iconst 0, 1, 34), (34, .ireturn, 1, 35), (35, .aload_n 0, 1, 36), (36, .getfield 41, 3, 39), (39, .iload_n 1, 1, 40), (40, .aload_n 0, 1, 41), (41, .getfield 41, 3, 44), (44, .iconst 4, 1, 45), (45, .iaload, 1, 46), (46, .iastore, 1, 47), (47, .iconst 0, 1, 48), (48, .istore_n 3, 1, 49), (49, .iload_n 3, 1, 50), (50, .iconst 4, 1, 51), (51, .if_icmp .ge 66, 3, 54), (54, .aload_n 0, 1, 55), (55, .getfield 44, 3, 58), (58, .iconst 4, 1, 59), (59, .iload_n 1, 1, 60), (60, .imul, 1, 61), (61, .iload_n 3, 1, 62), (62, .iadd, 1, 63), (63, .aload_n 0, 1, 64), (64, .getfield 44, 3, 67), (67, .bipush 16, 2, 69), (69, .iload_n 3, 1, 70), (70, .iadd, 1, 71), (71, .iaload, 1, 72), (72, .iastore, 1, 73), (73, .aload_n 0, 1, 74), (74, .getfield 47, 3, 77), (77, .iconst 4, 1, 78), (78, .iload_n 1, 1, 79), (79, .imul, 1, 80), (80, .iload_n 3, 1, 81), (81, .iadd, 1, 82), (82, .aload_n 0, 1, 83), (83, .getfield 47, 3, 86), (86, .bipush 16, 2, 88), (88, .iload_n 3, 1, 89), (89, .iadd, 1, 90), (90, .iaload, 1, 91), (91, .iastore, 1, 92)]
theorem dt_Md_save_0 : ev_dall m_Md_save tb_Md_save_0 := by decide +kernel
def tb_Md_save_1 : ev_tab := [(92, .aload_n 0, 1, 93), (93, .getfield 50, 3, 96), (96, .iconst 4, 1, 97), (97, .iload_n 1, 1, 98), (98, .imul, 1, 99), (99, .iload_n 3, 1, 100), (100, .iadd, 1, 101), (101, .aload_n 0, 1, 102), (102, .getfield 50, 3, 105), (105, .bipush 16, 2, 107), (107, .iload_n 3, 1, 108), (108, .iadd, 1, 109), (109, .iaload, 1, 110), (110, .iastore, 1, 111), (111, .iinc 3 1, 3, 114), (114, .goto (-65), 3, 117), (117, .aload_n 0, 1, 118), (118, .getfield 53, 3, 121), (121, .iload_n 1, 1, 122), (122, .iconst 1, 1, 123), (123, .bastore, 1, 124), (124, .aload_n 0, 1, 125), (125, .getfield 56, 3, 128), (128, .iload_n 1, 1, 129), (129, .iload_n 2, 1, 130), (130, .iastore, 1, 131), (131, .aload_n 0, 1, 132), (132, .iload_n 1, 1, 133), (133, .invokevirtual 176, 3, 136), (136, .ireturn, 1, 137)]
theorem dt_Md_save_1 : ev_dall m_Md_save tb_Md_save_1 := by decide +kernel
def tb_Md_readNow_0 : ev_tab := [(0, .aload_n 0, 1, 1), (1, .aload_n 0, 1, 2), (2, .getfield 56, 3, 5), (5, .iload_n 1, 1, 6), (6, .iaload, 1, 7), (7, .iload_n 1, 1, 8), (8, .iconst 4, 1, 9), (9, .invokevirtual 166, 3, 12), (12, .istore_n 2, 1, 13), (13, .iconst 0, 1, 14), (14, .istore_n 3, 1, 15), (15, .iload_n 3, 1, 16), (16, .bipush 120, 2, 18), (18, .if_icmp .ge 42, 3, 21), (21, .aload_n 0, 1, 22), (22, .getfield 59, 3, 25), (25, .bipush 120, 2, 27), (27, .iload_n 1, 1, 28), (28, .imul, 1, 29), (29, .iload_n 3, 1, 30), (30, .iadd, 1, 31), (31, .iload_n 3, 1, 32), (32, .aload_n 0, 1, 33), (33, .getfield 99, 3, 36), (36, .if_icmp .ge 16, 3, 39), (39, .aload_n 0, 1, 40), (40, .getfield 62, 3, 43), (43, .iload_n 3, 1, 44), (44, .baload, 1, 45), (45, .ifCond .eq 7, 3, 48), (48, .iconst 1, 1, 49), (49, .goto 4, 3, 52), (52, .iconst 0, 1, 53), (53, .bastore, 1, 54), (54, .iinc 3 1, 3, 57), (57, .goto (-42), 3, 60), (60, .iload_n 2, 1, 61), (61, .ireturn, 1, 62)]
theorem dt_Md_readNow_0 : ev_dall m_Md_readNow tb_Md_readNow_0 := by decide +kernel
def tb_Md_saved_0 : ev_tab := [(0, .aload_n 0, 1, 1), (1, .iconst 0, 1, 2), (2, .putfield 95, 3, 5), (5, .iload_n 1, 1, 6), (6, .ifCond .lt 17, 3, 9), (9, .iload_n 1, 1, 10), (10, .iconst 3, 1, 11), (11, .if_icmp .gt 12, 3, 14), (14, .iload_n 2, 1, 15), (15, .ifCond .lt 8, 3, 18), (18, .iload_n 2, 1, 19), (19, .iconst 2, 1, 20), (20, .if_icmp .le 5, 3, 23), (23, .iconst (-1), 1, 24), (24, .ireturn, 1, 25), (25, .aload_n 0, 1, 26), (26, .getfield 53, 3, 29), (29, .iload_n 1, 1, 30), (30, .baload, 1, 31), (31, .ifCond .ne 5, 3, 34), (34, .iconst (-1), 1, 35), (35, .ireturn, 1, 36), (36, .aload_n 0, 1, 37), (37, .aload_n 0, 1, 38), (38, .getfield 56, 3, 41), (41, .iload_n 1, 1, 42), (42, .iaload, 1, 43), (43, .iload_n 1, 1, 44), (44, .iconst 4, 1, 45), (45, .invokevirtual 166, 3, 48), (48, .istore 4, 2, 50), (50, .iconst 0, 1, 51), (51, .istore 5, 2, 53), (53, .iconst 0, 1, 54), (54, .istore 6, 2, 56), (56, .iload 6, 2, 58), (58, .aload_n 0, 1, 59), (59, .getfield 99, 3, 62), (62, .if_icmp .ge 116, 3, 65), (65, .aload_n 0, 1, 66), (66, .getfield 59, 3, 69), (69, .bipush 120, 2, 71), (71, .iload_n 1, 1, 72), (72, .imul, 1, 73), (73, .iload 6, 2, 75), (75, .iadd, 1, 76), (76, .baload, 1, 77), (77, .istore 7, 2, 79), (79, .iload_n 2, 1, 80), (80, .ifCond .ne 13, 3, 83), (83, .aload_n 0, 1, 84), (84, .getfield 62, 3, 87), (87, .iload 6, 2, 89), (89, .baload, 1, 90), (90, .goto 51, 3, 93), (93, .iload_n 2, 1, 94), (94, .iconst 1, 1, 95), (95, .if_icmp .ne 26, 3, 98), (98, .aload_n 0, 1, 99), (99, .getfield 62, 3, 102)]
theorem dt_Md_saved_0 : ev_dall m_Md_saved tb_Md_saved_0 := by decide +kernel
def tb_Md_saved_1 : ev_tab := [(102, .iload 6, 2, 104), (104, .baload, 1, 105), (105, .ifCond .eq 12, 3, 108), (108, .iload 7, 2, 110), (110, .ifCond .ne 7, 3, 113), (113, .iconst 1, 1, 114), (114, .goto 27, 3, 117), (117, .iconst 0, 1, 118), (118, .goto 23, 3, 121), (121, .iload 7, 2, 123), (123, .ifCond .eq 17, 3, 126), (126, .aload_n 0, 1, 127), (127, .getfield 62, 3, 130), (130, .iload 6, 2, 132), (132, .baload, 1, 133), (133, .ifCond .ne 7, 3, 136), (136, .iconst 1, 1, 137), (137, .goto 4, 3, 140), (140, .iconst 0, 1, 141), (141, .istore 8, 2, 143), (143, .iload 8, 2, 145), (145, .ifCond .eq 12, 3, 148), (148, .iload 5, 2, 150), (150, .iload_n 3, 1, 151), (151, .if_icmp .ne 6, 3, 154), (154, .iload 6, 2, 156), (156, .ireturn, 1, 157), (157, .iload 5, 2, 159), (159, .iload 8, 2, 161), (161, .ifCond .eq 7, 3, 164), (164, .iconst 1, 1, 165), (165, .goto 4, 3, 168), (168, .iconst 0, 1, 169), (169, .iadd, 1, 170), (170, .istore 5, 2, 172), (172, .iinc 6 1, 3, 175), (175, .goto (-119), 3, 178), (178, .iload_n 3, 1, 179), (179, .iconst (-1), 1, 180), (180, .if_icmp .ne 8, 3, 183), (183, .iload 5, 2, 185), (185, .goto 4, 3, 188), (188, .iconst (-1), 1, 189), (189, .ireturn, 1, 190)]
theorem dt_Md_saved_1 : ev_dall m_Md_saved tb_Md_saved_1 := by decide +kernel
def tb_Md_read_0 : ev_tab := [(0, .aload_n 0, 1, 1), (1, .iconst 0, 1, 2), (2, .putfield 95, 3, 5), (5, .iload_n 1, 1, 6), (6, .ifCond .lt 8, 3, 9), (9, .iload_n 1, 1, 10), (10, .iconst 3, 1, 11), (11, .if_icmp .le 5, 3, 14), (14, .iconst 0, 1, 15), (15, .ireturn, 1, 16), (16, .aload_n 0, 1, 17), (17, .getfield 53, 3, 20), (20, .iload_n 1, 1, 21), (21, .baload, 1, 22), (22, .ifCond .eq 9, 3, 25), (25, .aload_n 0, 1, 26), (26, .iload_n 1, 1, 27), (27, .invokevirtual 176, 3, 30), (30, .istore_n 2, 1, 31), (31, .aload_n 0, 1, 32), (32, .getfield 53, 3, 35), (35, .iload_n 1, 1, 36), (36, .baload, 1, 37), (37, .ireturn, 1, 38)]
theorem dt_Md_read_0 : ev_dall m_Md_read tb_Md_read_0 := by decide +kernel
def tb_Md_reduce_0 : ev_tab := [(0, .aload_n 0, 1, 1), (1, .aload_n 0, 1, 2), (2, .iload_n 1, 1, 3), (3, .invokevirtual 116, 3, 6), (6, .ifCond .eq 7, 3, 9), (9, .iconst 0, 1, 10), (10, .goto 4, 3, 13), (13, .iconst 1, 1, 14), (14, .putfield 95, 3, 17), (17, .aload_n 0, 1, 18), (18, .getfield 95, 3, 21), (21, .ifCond .le 5, 3, 24), (24, .iconst 0, 1, 25), (25, .ireturn, 1, 26), (26, .aload_n 0, 1, 27), (27, .iconst 0, 1, 28), (28, .putfield 180, 3, 31), (31, .iconst 0, 1, 32), (32, .istore_n 2, 1, 33), (33, .iload_n 2, 1, 34), (34, .iload_n 1, 1, 35), (35, .if_icmp .gt 66, 3, 38), (38, .aload_n 0, 1, 39), (39, .getfield 86, 3, 42), (42, .iload_n 2, 1, 43), (43, .aload_n 0, 1, 44), (44, .getfield 17, 3, 47), (47, .iload_n 2, 1, 48), (48, .iaload, 1, 49), (49, .bipush 6, 2, 51), (51, .if_icmp .ge 11, 3, 54), (54, .aload_n 0, 1, 55), (55, .iload_n 2, 1, 56), (56, .invokevirtual 196, 3, 59), (59, .goto 35, 3, 62), (62, .aload_n 0, 1, 63), (63, .aload_n 0, 1, 64), (64, .getfield 17, 3, 67), (67, .iload_n 2, 1, 68), (68, .iaload, 1, 69), (69, .aload_n 0, 1, 70), (70, .getfield 86, 3, 73), (73, .aload_n 0, 1, 74), (74, .getfield 23, 3, 77), (77, .iload_n 2, 1, 78), (78, .iaload, 1, 79), (79, .iaload, 1, 80), (80, .aload_n 0, 1, 81), (81, .getfield 86, 3, 84), (84, .aload_n 0, 1, 85), (85, .getfield 26, 3, 88), (88, .iload_n 2, 1, 89), (89, .iaload, 1, 90), (90, .iaload, 1, 91), (91, .invokevirtual 199, 3, 94), (94, .iastore, 1, 95), (95, .iinc 2 1, 3, 98), (98, .goto (-65), 3, 101), (101, .aload_n 0, 1, 102), (102, .aload_n 0, 1, 103)]
theorem dt_Md_reduce_0 : ev_dall m_Md_reduce tb_Md_reduce_0 := by decide +kernel
def tb_Md_reduce_1 : ev_tab := [(103, .getfield 86, 3, 106), (106, .iload_n 1, 1, 107), (107, .iaload, 1, 108), (108, .invokevirtual 202, 3, 111), (111, .aload_n 0, 1, 112), (112, .getfield 190, 3, 115), (115, .ireturn, 1, 116)]
theorem dt_Md_reduce_1 : ev_dall m_Md_reduce tb_Md_reduce_1 := by decide +kernel
def tb_Md_reducedOrder_0 : ev_tab := [(0, .aload_n 0, 1, 1), (1, .getfield 17, 3, 4), (4, .iload_n 1, 1, 5), (5, .iaload, 1, 6), (6, .istore_n 2, 1, 7), (7, .iload_n 2, 1, 8), (8, .iconst 2, 1, 9), (9, .if_icmp .eq 8, 3, 12), (12, .iload_n 2, 1, 13), (13, .iconst 3, 1, 14), (14, .if_icmp .ne 12, 3, 17), (17, .aload_n 0, 1, 18), (18, .getfield 23, 3, 21), (21, .iload_n 1, 1, 22), (22, .iaload, 1, 23), (23, .goto 13, 3, 26), (26, .iload_n 2, 1, 27), (27, .iconst 3, 1, 28), (28, .if_icmp .le 7, 3, 31), (31, .iload_n 1, 1, 32), (32, .goto 4, 3, 35), (35, .iconst 0, 1, 36), (36, .istore_n 3, 1, 37), (37, .aload_n 0, 1, 38), (38, .iload_n 2, 1, 39), (39, .aload_n 0, 1, 40), (40, .getfield 20, 3, 43), (43, .iload_n 1, 1, 44), (44, .iaload, 1, 45), (45, .iload_n 3, 1, 46), (46, .iload_n 2, 1, 47), (47, .iconst 3, 1, 48), (48, .if_icmp .ne 12, 3, 51), (51, .aload_n 0, 1, 52), (52, .getfield 26, 3, 55), (55, .iload_n 1, 1, 56), (56, .iaload, 1, 57), (57, .goto 4, 3, 60), (60, .iconst 0, 1, 61), (61, .invokevirtual 183, 3, 64), (64, .ireturn, 1, 65)]
theorem dt_Md_reducedOrder_0 : ev_dall m_Md_reducedOrder tb_Md_reducedOrder_0 := by decide +kernel
def tb_Md_place_0 : ev_tab := [(0, .iconst 0, 1, 1), (1, .istore 5, 2, 3), (3, .iload 5, 2, 5), (5, .aload_n 0, 1, 6), (6, .getfield 180, 3, 9), (9, .if_icmp .ge 57, 3, 12), (12, .aload_n 0, 1, 13), (13, .getfield 71, 3, 16), (16, .iload 5, 2, 18), (18, .iaload, 1, 19), (19, .iload_n 1, 1, 20), (20, .if_icmp .ne 40, 3, 23), (23, .aload_n 0, 1, 24), (24, .getfield 74, 3, 27), (27, .iload 5, 2, 29), (29, .iaload, 1, 30), (30, .iload_n 2, 1, 31), (31, .if_icmp .ne 29, 3, 34), (34, .aload_n 0, 1, 35), (35, .getfield 77, 3, 38), (38, .iload 5, 2, 40), (40, .iaload, 1, 41), (41, .iload_n 3, 1, 42), (42, .if_icmp .ne 18, 3, 45), (45, .aload_n 0, 1, 46), (46, .getfield 80, 3, 49), (49, .iload 5, 2, 51), (51, .iaload, 1, 52), (52, .iload 4, 2, 54), (54, .if_icmp .ne 6, 3, 57), (57, .iload 5, 2, 59), (59, .ireturn, 1, 60), (60, .iinc 5 1, 3, 63), (63, .goto (-60), 3, 66), (66, .aload_n 0, 1, 67), (67, .getfield 71, 3, 70), (70, .aload_n 0, 1, 71), (71, .getfield 180, 3, 74), (74, .iload_n 1, 1, 75), (75, .iastore, 1, 76), (76, .aload_n 0, 1, 77), (77, .getfield 74, 3, 80), (80, .aload_n 0, 1, 81), (81, .getfield 180, 3, 84), (84, .iload_n 2, 1, 85), (85, .iastore, 1, 86), (86, .aload_n 0, 1, 87), (87, .getfield 77, 3, 90), (90, .aload_n 0, 1, 91), (91, .getfield 180, 3, 94), (94, .iload_n 3, 1, 95), (95, .iastore, 1, 96), (96, .aload_n 0, 1, 97), (97, .getfield 80, 3, 100), (100, .aload_n 0, 1, 101), (101, .getfield 180, 3, 104), (104, .iload 4, 2, 106), (106, .iastore, 1, 107), (107, .aload_n 0, 1, 108), (108, .getfield 83, 3, 111)]
theorem dt_Md_place_0 : ev_dall m_Md_place tb_Md_place_0 := by decide +kernel
def tb_Md_place_1 : ev_tab := [(111, .aload_n 0, 1, 112), (112, .getfield 180, 3, 115), (115, .iload_n 1, 1, 116), (116, .bipush 6, 2, 118), (118, .if_icmp .ge 9, 3, 121), (121, .iconst 1, 1, 122), (122, .iload_n 2, 1, 123), (123, .ishl, 1, 124), (124, .goto 17, 3, 127), (127, .aload_n 0, 1, 128), (128, .getfield 83, 3, 131), (131, .iload_n 3, 1, 132), (132, .iaload, 1, 133), (133, .aload_n 0, 1, 134), (134, .getfield 83, 3, 137), (137, .iload 4, 2, 139), (139, .iaload, 1, 140), (140, .ior, 1, 141), (141, .iastore, 1, 142), (142, .aload_n 0, 1, 143), (143, .dup, 1, 144), (144, .getfield 180, 3, 147), (147, .iconst 1, 1, 148), (148, .iadd, 1, 149), (149, .putfield 180, 3, 152), (152, .aload_n 0, 1, 153), (153, .getfield 180, 3, 156), (156, .iconst 1, 1, 157), (157, .isub, 1, 158), (158, .ireturn, 1, 159)]
theorem dt_Md_place_1 : ev_dall m_Md_place tb_Md_place_1 := by decide +kernel
def tb_Md_reducedTerm_0 : ev_tab := [(0, .iload_n 1, 1, 1), (1, .bipush 9, 2, 3), (3, .if_icmp .ne 9, 3, 6), (6, .aload_n 0, 1, 7), (7, .iload_n 2, 1, 8), (8, .invokevirtual 187, 3, 11), (11, .ireturn, 1, 12), (12, .iload_n 2, 1, 13), (13, .iload_n 3, 1, 14), (14, .if_icmp .eq 27, 3, 17), (17, .iload_n 1, 1, 18), (18, .bipush 7, 2, 20), (20, .if_icmp .ne 23, 3, 23), (23, .aload_n 0, 1, 24), (24, .getfield 83, 3, 27), (27, .iload_n 3, 1, 28), (28, .iaload, 1, 29), (29, .aload_n 0, 1, 30), (30, .getfield 83, 3, 33), (33, .iload_n 2, 1, 34), (34, .iaload, 1, 35), (35, .iconst (-1), 1, 36), (36, .ixor, 1, 37), (37, .iand, 1, 38), (38, .ifCond .ne 5, 3, 41), (41, .iload_n 2, 1, 42), (42, .ireturn, 1, 43), (43, .iload_n 1, 1, 44), (44, .bipush 7, 2, 46), (46, .if_icmp .eq 29, 3, 49), (49, .aload_n 0, 1, 50), (50, .getfield 71, 3, 53), (53, .iload_n 2, 1, 54), (54, .iaload, 1, 55), (55, .bipush 9, 2, 57), (57, .if_icmp .ne 18, 3, 60), (60, .aload_n 0, 1, 61), (61, .getfield 71, 3, 64), (64, .iload_n 3, 1, 65), (65, .iaload, 1, 66), (66, .bipush 9, 2, 68), (68, .if_icmp .ne 7, 3, 71), (71, .iconst 1, 1, 72), (72, .goto 4, 3, 75), (75, .iconst 0, 1, 76), (76, .istore 4, 2, 78), (78, .iload 4, 2, 80), (80, .ifCond .eq 28, 3, 83), (83, .aload_n 0, 1, 84), (84, .aload_n 0, 1, 85), (85, .iload_n 1, 1, 86), (86, .iconst (-1), 1, 87), (87, .aload_n 0, 1, 88), (88, .getfield 77, 3, 91), (91, .iload_n 2, 1, 92), (92, .iaload, 1, 93), (93, .aload_n 0, 1, 94), (94, .getfield 77, 3, 97), (97, .iload_n 3, 1, 98), (98, .iaload, 1, 99)]
theorem dt_Md_reducedTerm_0 : ev_dall m_Md_reducedTerm tb_Md_reducedTerm_0 := by decide +kernel
def tb_Md_reducedTerm_1 : ev_tab := [(99, .invokevirtual 183, 3, 102), (102, .invokevirtual 187, 3, 105), (105, .goto 11, 3, 108), (108, .aload_n 0, 1, 109), (109, .iload_n 1, 1, 110), (110, .iconst (-1), 1, 111), (111, .iload_n 2, 1, 112), (112, .iload_n 3, 1, 113), (113, .invokevirtual 183, 3, 116), (116, .ireturn, 1, 117)]
theorem dt_Md_reducedTerm_1 : ev_dall m_Md_reducedTerm tb_Md_reducedTerm_1 := by decide +kernel
def tb_Md_dual_0 : ev_tab := [(0, .aload_n 0, 1, 1), (1, .getfield 71, 3, 4), (4, .iload_n 1, 1, 5), (5, .iaload, 1, 6), (6, .istore_n 2, 1, 7), (7, .iload_n 2, 1, 8), (8, .bipush 9, 2, 10), (10, .if_icmp .ne 10, 3, 13), (13, .aload_n 0, 1, 14), (14, .getfield 77, 3, 17), (17, .iload_n 1, 1, 18), (18, .iaload, 1, 19), (19, .ireturn, 1, 20), (20, .iload_n 2, 1, 21), (21, .iconst 2, 1, 22), (22, .if_icmp .ge 21, 3, 25), (25, .aload_n 0, 1, 26), (26, .iconst 1, 1, 27), (27, .iload_n 2, 1, 28), (28, .isub, 1, 29), (29, .aload_n 0, 1, 30), (30, .getfield 74, 3, 33), (33, .iload_n 1, 1, 34), (34, .iaload, 1, 35), (35, .iconst 0, 1, 36), (36, .iconst 0, 1, 37), (37, .invokevirtual 183, 3, 40), (40, .goto 12, 3, 43), (43, .aload_n 0, 1, 44), (44, .bipush 9, 2, 46), (46, .iconst (-1), 1, 47), (47, .iload_n 1, 1, 48), (48, .iload_n 1, 1, 49), (49, .invokevirtual 183, 3, 52), (52, .ireturn, 1, 53)]
theorem dt_Md_dual_0 : ev_dall m_Md_dual tb_Md_dual_0 := by decide +kernel
def tb_Md_write_0 : ev_tab := [(0, .aload_n 0, 1, 1), (1, .iconst 0, 1, 2), (2, .putfield 190, 3, 5), (5, .aload_n 0, 1, 6), (6, .getfield 92, 3, 9), (9, .iconst 0, 1, 10), (10, .iload_n 1, 1, 11), (11, .iastore, 1, 12), (12, .iconst 1, 1, 13), (13, .istore_n 2, 1, 14), (14, .iload_n 2, 1, 15), (15, .ifCond .le 135, 3, 18), (18, .iinc 2 (-1), 3, 21), (21, .aload_n 0, 1, 22), (22, .getfield 92, 3, 25), (25, .iload_n 2, 1, 26), (26, .iaload, 1, 27), (27, .istore_n 3, 1, 28), (28, .aload_n 0, 1, 29), (29, .getfield 71, 3, 32), (32, .iload_n 3, 1, 33), (33, .iaload, 1, 34), (34, .istore 4, 2, 36), (36, .aload_n 0, 1, 37), (37, .iload 4, 2, 39), (39, .invokevirtual 193, 3, 42), (42, .iload 4, 2, 44), (44, .bipush 6, 2, 46), (46, .if_icmp .ge 13, 3, 49), (49, .aload_n 0, 1, 50), (50, .aload_n 0, 1, 51), (51, .getfield 74, 3, 54), (54, .iload_n 3, 1, 55), (55, .iaload, 1, 56), (56, .invokevirtual 193, 3, 59), (59, .iload 4, 2, 61), (61, .iconst 1, 1, 62), (62, .if_icmp .le 20, 3, 65), (65, .iload 4, 2, 67), (67, .bipush 6, 2, 69), (69, .if_icmp .ge 13, 3, 72), (72, .aload_n 0, 1, 73), (73, .aload_n 0, 1, 74), (74, .getfield 77, 3, 77), (77, .iload_n 3, 1, 78), (78, .iaload, 1, 79), (79, .invokevirtual 193, 3, 82), (82, .iload 4, 2, 84), (84, .iconst 3, 1, 85), (85, .if_icmp .ne 13, 3, 88), (88, .aload_n 0, 1, 89), (89, .aload_n 0, 1, 90), (90, .getfield 80, 3, 93), (93, .iload_n 3, 1, 94), (94, .iaload, 1, 95), (95, .invokevirtual 193, 3, 98), (98, .iload 4, 2, 100), (100, .iconst 5, 1, 101), (101, .if_icmp .le 25, 3, 104), (104, .iload 4, 2, 106)]
theorem dt_Md_write_0 : ev_dall m_Md_write tb_Md_write_0 := by decide +kernel
def tb_Md_write_1 : ev_tab := [(106, .bipush 9, 2, 108), (108, .if_icmp .ge 18, 3, 111), (111, .aload_n 0, 1, 112), (112, .getfield 92, 3, 115), (115, .iload_n 2, 1, 116), (116, .aload_n 0, 1, 117), (117, .getfield 80, 3, 120), (120, .iload_n 3, 1, 121), (121, .iaload, 1, 122), (122, .iastore, 1, 123), (123, .iinc 2 1, 3, 126), (126, .iload 4, 2, 128), (128, .iconst 5, 1, 129), (129, .if_icmp .le 18, 3, 132), (132, .aload_n 0, 1, 133), (133, .getfield 92, 3, 136), (136, .iload_n 2, 1, 137), (137, .aload_n 0, 1, 138), (138, .getfield 77, 3, 141), (141, .iload_n 3, 1, 142), (142, .iaload, 1, 143), (143, .iastore, 1, 144), (144, .iinc 2 1, 3, 147), (147, .goto (-133), 3, 150), (150, .return_, 1, 151)]
theorem dt_Md_write_1 : ev_dall m_Md_write tb_Md_write_1 := by decide +kernel
def tb_Md_emit_0 : ev_tab := [(0, .aload_n 0, 1, 1), (1, .getfield 89, 3, 4), (4, .aload_n 0, 1, 5), (5, .getfield 190, 3, 8), (8, .iload_n 1, 1, 9), (9, .iastore, 1, 10), (10, .aload_n 0, 1, 11), (11, .dup, 1, 12), (12, .getfield 190, 3, 15), (15, .iconst 1, 1, 16), (16, .iadd, 1, 17), (17, .putfield 190, 3, 20), (20, .return_, 1, 21)]
theorem dt_Md_emit_0 : ev_dall m_Md_emit tb_Md_emit_0 := by decide +kernel
def tb_Md_form_0 : ev_tab := [(0, .aload_n 0, 1, 1), (1, .iload_n 1, 1, 2), (2, .ifCond .lt 15, 3, 5), (5, .iload_n 1, 1, 6), (6, .aload_n 0, 1, 7), (7, .getfield 190, 3, 10), (10, .if_icmp .ge 7, 3, 13), (13, .iconst 0, 1, 14), (14, .goto 4, 3, 17), (17, .iconst 1, 1, 18), (18, .putfield 95, 3, 21), (21, .aload_n 0, 1, 22), (22, .getfield 95, 3, 25), (25, .ifCond .le 7, 3, 28), (28, .iconst 0, 1, 29), (29, .goto 9, 3, 32), (32, .aload_n 0, 1, 33), (33, .getfield 89, 3, 36), (36, .iload_n 1, 1, 37), (37, .iaload, 1, 38), (38, .ireturn, 1, 39)]
theorem dt_Md_form_0 : ev_dall m_Md_form tb_Md_form_0 := by decide +kernel
end
section
/-! Decode tables (written by gen_lean.py). -/
def tb_Lw_row_0 : ev_tab := [(0, .aload 5, 2, 2), (2, .iconst 0, 1, 3), (3, .aload_n 0, 1, 4), (4, .iload_n 1, 1, 5), (5, .iload_n 2, 1, 6), (6, .iload_n 3, 1, 7), (7, .iload 4, 2, 9), (9, .invokevirtual 7, 3, 12), (12, .i2l, 1, 13), (13, .lastore, 1, 14), (14, .goto 7, 3, 17), (17, .astore 6, 2, 19), (19, .iconst 1, 1, 20), (20, .ireturn, 1, 21), (21, .iconst 0, 1, 22), (22, .ireturn, 1, 23)]
theorem dt_Lw_row_0 : ev_dall m_Lw_row tb_Lw_row_0 := by decide +kernel
def tb_Lw_value_0 : ev_tab := [(0, .aload_n 3, 1, 1), (1, .iconst 0, 1, 2), (2, .aload_n 0, 1, 3), (3, .iload_n 1, 1, 4), (4, .iload_n 2, 1, 5), (5, .invokevirtual 15, 3, 8), (8, .i2l, 1, 9), (9, .lastore, 1, 10), (10, .goto 7, 3, 13), (13, .astore 4, 2, 15), (15, .iconst 1, 1, 16), (16, .ireturn, 1, 17), (17, .iconst 0, 1, 18), (18, .ireturn, 1, 19)]
theorem dt_Lw_value_0 : ev_dall m_Lw_value tb_Lw_value_0 := by decide +kernel
def tb_Lw_order_0 : ev_tab := [(0, .aload 5, 2, 2), (2, .iconst 0, 1, 3), (3, .aload_n 0, 1, 4), (4, .iload_n 1, 1, 5), (5, .iload_n 2, 1, 6), (6, .iload_n 3, 1, 7), (7, .iload 4, 2, 9), (9, .invokevirtual 21, 3, 12), (12, .i2l, 1, 13), (13, .lastore, 1, 14), (14, .goto 11, 3, 17), (17, .astore 6, 2, 19), (19, .iconst 1, 1, 20), (20, .ireturn, 1, 21), (21, .astore 6, 2, 23), (23, .iconst 2, 1, 24), (24, .ireturn, 1, 25), (25, .iconst 0, 1, 26), (26, .ireturn, 1, 27)]
theorem dt_Lw_order_0 : ev_dall m_Lw_order tb_Lw_order_0 := by decide +kernel
def tb_Lw_edge_0 : ev_tab := [(0, .aload 4, 2, 2), (2, .iconst 0, 1, 3), (3, .aload_n 0, 1, 4), (4, .iload_n 1, 1, 5), (5, .iload_n 2, 1, 6), (6, .iload_n 3, 1, 7), (7, .invokevirtual 26, 3, 10), (10, .ifCond .eq 7, 3, 13), (13, .lconst 1, 1, 14), (14, .goto 4, 3, 17), (17, .lconst 0, 1, 18), (18, .lastore, 1, 19), (19, .goto 11, 3, 22), (22, .astore 5, 2, 24), (24, .iconst 1, 1, 25), (25, .ireturn, 1, 26), (26, .astore 5, 2, 28), (28, .iconst 2, 1, 29), (29, .ireturn, 1, 30), (30, .iconst 0, 1, 31), (31, .ireturn, 1, 32)]
theorem dt_Lw_edge_0 : ev_dall m_Lw_edge tb_Lw_edge_0 := by decide +kernel
def tb_Lw_term_0 : ev_tab := [(0, .aload 4, 2, 2), (2, .iconst 0, 1, 3), (3, .aload_n 0, 1, 4), (4, .iload_n 1, 1, 5), (5, .iload_n 2, 1, 6), (6, .iload_n 3, 1, 7), (7, .invokevirtual 30, 3, 10), (10, .i2l, 1, 11), (11, .lastore, 1, 12), (12, .goto 11, 3, 15), (15, .astore 5, 2, 17), (17, .iconst 1, 1, 18), (18, .ireturn, 1, 19), (19, .astore 5, 2, 21), (21, .iconst 2, 1, 22), (22, .ireturn, 1, 23), (23, .iconst 0, 1, 24), (24, .ireturn, 1, 25)]
theorem dt_Lw_term_0 : ev_dall m_Lw_term tb_Lw_term_0 := by decide +kernel
def tb_Lw_condition_0 : ev_tab := [(0, .aload 4, 2, 2), (2, .iconst 0, 1, 3), (3, .aload_n 0, 1, 4), (4, .iload_n 1, 1, 5), (5, .iload_n 2, 1, 6), (6, .iload_n 3, 1, 7), (7, .invokevirtual 34, 3, 10), (10, .i2l, 1, 11), (11, .lastore, 1, 12), (12, .goto 11, 3, 15), (15, .astore 5, 2, 17), (17, .iconst 1, 1, 18), (18, .ireturn, 1, 19), (19, .astore 5, 2, 21), (21, .iconst 2, 1, 22), (22, .ireturn, 1, 23), (23, .iconst 0, 1, 24), (24, .ireturn, 1, 25)]
theorem dt_Lw_condition_0 : ev_dall m_Lw_condition tb_Lw_condition_0 := by decide +kernel
def tb_Lw_compare_0 : ev_tab := [(0, .aload 4, 2, 2), (2, .iconst 0, 1, 3), (3, .aload_n 0, 1, 4), (4, .iload_n 1, 1, 5), (5, .iload_n 2, 1, 6), (6, .iload_n 3, 1, 7), (7, .invokevirtual 37, 3, 10), (10, .i2l, 1, 11), (11, .lastore, 1, 12), (12, .goto 7, 3, 15), (15, .astore 5, 2, 17), (17, .iconst 1, 1, 18), (18, .ireturn, 1, 19), (19, .iconst 0, 1, 20), (20, .ireturn, 1, 21)]
theorem dt_Lw_compare_0 : ev_dall m_Lw_compare tb_Lw_compare_0 := by decide +kernel
def tb_Lw_best_0 : ev_tab := [(0, .aload_n 2, 1, 1), (1, .iconst 0, 1, 2), (2, .aload_n 0, 1, 3), (3, .iload_n 1, 1, 4), (4, .invokevirtual 40, 3, 7), (7, .i2l, 1, 8), (8, .lastore, 1, 9), (9, .goto 6, 3, 12), (12, .astore_n 3, 1, 13), (13, .iconst 1, 1, 14), (14, .ireturn, 1, 15), (15, .iconst 0, 1, 16), (16, .ireturn, 1, 17)]
theorem dt_Lw_best_0 : ev_dall m_Lw_best tb_Lw_best_0 := by decide +kernel
def tb_Lw_grouped_0 : ev_tab := [(0, .aload_n 3, 1, 1), (1, .iconst 0, 1, 2), (2, .aload_n 0, 1, 3), (3, .iload_n 1, 1, 4), (4, .iload_n 2, 1, 5), (5, .invokevirtual 44, 3, 8), (8, .i2l, 1, 9), (9, .lastore, 1, 10), (10, .goto 7, 3, 13), (13, .astore 4, 2, 15), (15, .iconst 1, 1, 16), (16, .ireturn, 1, 17), (17, .iconst 0, 1, 18), (18, .ireturn, 1, 19)]
theorem dt_Lw_grouped_0 : ev_dall m_Lw_grouped tb_Lw_grouped_0 := by decide +kernel
def tb_Lw_top_0 : ev_tab := [(0, .aload_n 3, 1, 1), (1, .iconst 0, 1, 2), (2, .aload_n 0, 1, 3), (3, .iload_n 1, 1, 4), (4, .iload_n 2, 1, 5), (5, .invokevirtual 47, 3, 8), (8, .i2l, 1, 9), (9, .lastore, 1, 10), (10, .goto 11, 3, 13), (13, .astore 4, 2, 15), (15, .iconst 1, 1, 16), (16, .ireturn, 1, 17), (17, .astore 4, 2, 19), (19, .iconst 2, 1, 20), (20, .ireturn, 1, 21), (21, .iconst 0, 1, 22), (22, .ireturn, 1, 23)]
theorem dt_Lw_top_0 : ev_dall m_Lw_top tb_Lw_top_0 := by decide +kernel
def tb_Lw_level_0 : ev_tab := [(0, .aload_n 3, 1, 1), (1, .iconst 0, 1, 2), (2, .aload_n 0, 1, 3), (3, .iload_n 1, 1, 4), (4, .iload_n 2, 1, 5), (5, .invokevirtual 50, 3, 8), (8, .i2l, 1, 9), (9, .lastore, 1, 10), (10, .goto 7, 3, 13), (13, .astore 4, 2, 15), (15, .iconst 1, 1, 16), (16, .ireturn, 1, 17), (17, .iconst 0, 1, 18), (18, .ireturn, 1, 19)]
theorem dt_Lw_level_0 : ev_dall m_Lw_level tb_Lw_level_0 := by decide +kernel
def tb_Lw_reason_0 : ev_tab := [(0, .aload 5, 2, 2), (2, .iconst 0, 1, 3), (3, .aload_n 0, 1, 4), (4, .iload_n 1, 1, 5), (5, .iload_n 2, 1, 6), (6, .iload_n 3, 1, 7), (7, .iload 4, 2, 9), (9, .invokevirtual 53, 3, 12), (12, .i2l, 1, 13), (13, .lastore, 1, 14), (14, .goto 7, 3, 17), (17, .astore 6, 2, 19), (19, .iconst 1, 1, 20), (20, .ireturn, 1, 21), (21, .iconst 0, 1, 22), (22, .ireturn, 1, 23)]
theorem dt_Lw_reason_0 : ev_dall m_Lw_reason tb_Lw_reason_0 := by decide +kernel
def tb_Lw_save_0 : ev_tab := [(0, .aload_n 3, 1, 1), (1, .iconst 0, 1, 2), (2, .aload_n 0, 1, 3), (3, .iload_n 1, 1, 4), (4, .iload_n 2, 1, 5), (5, .invokevirtual 56, 3, 8), (8, .i2l, 1, 9), (9, .lastore, 1, 10), (10, .goto 7, 3, 13), (13, .astore 4, 2, 15), (15, .iconst 1, 1, 16), (16, .ireturn, 1, 17), (17, .iconst 0, 1, 18), (18, .ireturn, 1, 19)]
theorem dt_Lw_save_0 : ev_dall m_Lw_save tb_Lw_save_0 := by decide +kernel
def tb_Lw_reduce_0 : ev_tab := [(0, .aload_n 2, 1, 1), (1, .iconst 0, 1, 2), (2, .aload_n 0, 1, 3), (3, .iload_n 1, 1, 4), (4, .invokevirtual 59, 3, 7), (7, .i2l, 1, 8), (8, .lastore, 1, 9), (9, .goto 6, 3, 12), (12, .astore_n 3, 1, 13), (13, .iconst 1, 1, 14), (14, .ireturn, 1, 15), (15, .iconst 0, 1, 16), (16, .ireturn, 1, 17)]
theorem dt_Lw_reduce_0 : ev_dall m_Lw_reduce tb_Lw_reduce_0 := by decide +kernel
def tb_Lw_form_0 : ev_tab := [(0, .aload_n 2, 1, 1), (1, .iconst 0, 1, 2), (2, .aload_n 0, 1, 3), (3, .iload_n 1, 1, 4), (4, .invokevirtual 62, 3, 7), (7, .i2l, 1, 8), (8, .lastore, 1, 9), (9, .goto 6, 3, 12), (12, .astore_n 3, 1, 13), (13, .iconst 1, 1, 14), (14, .ireturn, 1, 15), (15, .iconst 0, 1, 16), (16, .ireturn, 1, 17)]
theorem dt_Lw_form_0 : ev_dall m_Lw_form tb_Lw_form_0 := by decide +kernel
end
section
/-! Decode tables (written by gen_lean.py). -/
def tb_Lw_law_0 : ev_tab := [(0, .new 8, 3, 3), (3, .dup, 1, 4), (4, .invokespecial 65, 3, 7), (7, .astore_n 1, 1, 8), (8, .new 66, 3, 11), (11, .dup, 1, 12), (12, .invokespecial 68, 3, 15), (15, .astore_n 2, 1, 16), (16, .iconst 1, 1, 17), (17, .newarray .long, 2, 19), (19, .astore_n 3, 1, 20), (20, .iconst 0, 1, 21), (21, .istore 4, 2, 23), (23, .iload 4, 2, 25), (25, .aload_n 0, 1, 26), (26, .arraylength, 1, 27), (27, .iconst 5, 1, 28), (28, .isub, 1, 29), (29, .if_icmp .gt 1461, 3, 32), (32, .aload_n 0, 1, 33), (33, .iload 4, 2, 35), (35, .iaload, 1, 36), (36, .bipush 31, 2, 38), (38, .iand, 1, 39), (39, .tableswitch 1445 0 21 #[101, 193, 242, 267, 335, 427, 476, 563, 643, 723, 734, 814, 870, 938, 1006, 1074, 1099, 1191, 1259, 1308, 1333, 1389], 101, 140), (140, .aload_n 1, 1, 141), (141, .aload_n 0, 1, 142), (142, .iload 4, 2, 144), (144, .iconst 1, 1, 145), (145, .iadd, 1, 146), (146, .iaload, 1, 147), (147, .aload_n 0, 1, 148), (148, .iload 4, 2, 150), (150, .iconst 2, 1, 151), (151, .iadd, 1, 152), (152, .iaload, 1, 153), (153, .aload_n 0, 1, 154), (154, .iload 4, 2, 156), (156, .iconst 3, 1, 157), (157, .iadd, 1, 158), (158, .iaload, 1, 159), (159, .aload_n 0, 1, 160), (160, .iload 4, 2, 162), (162, .iconst 4, 1, 163), (163, .iadd, 1, 164), (164, .iaload, 1, 165), (165, .aload_n 3, 1, 166), (166, .invokestatic 69, 3, 169), (169, .istore 5, 2, 171), (171, .aload_n 2, 1, 172), (172, .aload_n 0, 1, 173), (173, .iload 4, 2, 175), (175, .iconst 1, 1, 176), (176, .iadd, 1, 177), (177, .iaload, 1, 178), (178, .aload_n 0, 1, 179), (179, .iload 4, 2, 181), (181, .iconst 2, 1, 182), (182, .iadd, 1, 183), (183, .iaload, 1, 184)]
theorem dt_Lw_law_0 : ev_dall m_Lw_law tb_Lw_law_0 := by decide +kernel
def tb_Lw_law_1 : ev_tab := [(184, .aload_n 0, 1, 185), (185, .iload 4, 2, 187), (187, .iconst 3, 1, 188), (188, .iadd, 1, 189), (189, .iaload, 1, 190), (190, .aload_n 0, 1, 191), (191, .iload 4, 2, 193), (193, .iconst 4, 1, 194), (194, .iadd, 1, 195), (195, .iaload, 1, 196), (196, .invokevirtual 74, 3, 199), (199, .istore 6, 2, 201), (201, .aload_n 2, 1, 202), (202, .invokevirtual 75, 3, 205), (205, .iload 5, 2, 207), (207, .if_icmp .eq 5, 3, 210), (210, .iconst 0, 1, 211), (211, .ireturn, 1, 212), (212, .iload 5, 2, 214), (214, .ifCond .ne 15, 3, 217), (217, .aload_n 3, 1, 218), (218, .iconst 0, 1, 219), (219, .laload, 1, 220), (220, .iload 6, 2, 222), (222, .i2l, 1, 223), (223, .lcmp, 1, 224), (224, .ifCond .eq 5, 3, 227), (227, .iconst 0, 1, 228), (228, .ireturn, 1, 229), (229, .goto 1255, 3, 232), (232, .aload_n 1, 1, 233), (233, .aload_n 0, 1, 234), (234, .iload 4, 2, 236), (236, .iconst 1, 1, 237), (237, .iadd, 1, 238), (238, .iaload, 1, 239), (239, .aload_n 0, 1, 240), (240, .iload 4, 2, 242), (242, .iconst 2, 1, 243), (243, .iadd, 1, 244), (244, .iaload, 1, 245), (245, .aload_n 0, 1, 246), (246, .iload 4, 2, 248), (248, .iconst 3, 1, 249), (249, .iadd, 1, 250), (250, .iaload, 1, 251), (251, .invokevirtual 79, 3, 254), (254, .aload_n 2, 1, 255), (255, .aload_n 0, 1, 256), (256, .iload 4, 2, 258), (258, .iconst 1, 1, 259), (259, .iadd, 1, 260), (260, .iaload, 1, 261), (261, .aload_n 0, 1, 262), (262, .iload 4, 2, 264), (264, .iconst 2, 1, 265), (265, .iadd, 1, 266), (266, .iaload, 1, 267), (267, .aload_n 0, 1, 268), (268, .iload 4, 2, 270)]
theorem dt_Lw_law_1 : ev_dall m_Lw_law tb_Lw_law_1 := by decide +kernel
def tb_Lw_law_2 : ev_tab := [(270, .iconst 3, 1, 271), (271, .iadd, 1, 272), (272, .iaload, 1, 273), (273, .invokevirtual 82, 3, 276), (276, .if_icmp .eq 1208, 3, 279), (279, .iconst 0, 1, 280), (280, .ireturn, 1, 281), (281, .aload_n 1, 1, 282), (282, .aload_n 0, 1, 283), (283, .iload 4, 2, 285), (285, .iconst 1, 1, 286), (286, .iadd, 1, 287), (287, .iaload, 1, 288), (288, .invokevirtual 83, 3, 291), (291, .aload_n 2, 1, 292), (292, .aload_n 0, 1, 293), (293, .iload 4, 2, 295), (295, .iconst 1, 1, 296), (296, .iadd, 1, 297), (297, .iaload, 1, 298), (298, .invokevirtual 87, 3, 301), (301, .if_icmp .eq 1183, 3, 304), (304, .iconst 0, 1, 305), (305, .ireturn, 1, 306), (306, .aload_n 1, 1, 307), (307, .aload_n 0, 1, 308), (308, .iload 4, 2, 310), (310, .iconst 1, 1, 311), (311, .iadd, 1, 312), (312, .iaload, 1, 313), (313, .aload_n 0, 1, 314), (314, .iload 4, 2, 316), (316, .iconst 2, 1, 317), (317, .iadd, 1, 318), (318, .iaload, 1, 319), (319, .aload_n 3, 1, 320), (320, .invokestatic 88, 3, 323), (323, .istore 5, 2, 325), (325, .aload_n 2, 1, 326), (326, .aload_n 0, 1, 327), (327, .iload 4, 2, 329), (329, .iconst 1, 1, 330), (330, .iadd, 1, 331), (331, .iaload, 1, 332), (332, .aload_n 0, 1, 333), (333, .iload 4, 2, 335), (335, .iconst 2, 1, 336), (336, .iadd, 1, 337), (337, .iaload, 1, 338), (338, .invokevirtual 91, 3, 341), (341, .istore 6, 2, 343), (343, .aload_n 2, 1, 344), (344, .invokevirtual 75, 3, 347), (347, .iload 5, 2, 349), (349, .if_icmp .eq 5, 3, 352), (352, .iconst 0, 1, 353), (353, .ireturn, 1, 354), (354, .iload 5, 2, 356), (356, .ifCond .ne 15, 3, 359), (359, .aload_n 3, 1, 360)]
theorem dt_Lw_law_2 : ev_dall m_Lw_law tb_Lw_law_2 := by decide +kernel
def tb_Lw_law_3 : ev_tab := [(360, .iconst 0, 1, 361), (361, .laload, 1, 362), (362, .iload 6, 2, 364), (364, .i2l, 1, 365), (365, .lcmp, 1, 366), (366, .ifCond .eq 5, 3, 369), (369, .iconst 0, 1, 370), (370, .ireturn, 1, 371), (371, .goto 1113, 3, 374), (374, .aload_n 1, 1, 375), (375, .aload_n 0, 1, 376), (376, .iload 4, 2, 378), (378, .iconst 1, 1, 379), (379, .iadd, 1, 380), (380, .iaload, 1, 381), (381, .aload_n 0, 1, 382), (382, .iload 4, 2, 384), (384, .iconst 2, 1, 385), (385, .iadd, 1, 386), (386, .iaload, 1, 387), (387, .aload_n 0, 1, 388), (388, .iload 4, 2, 390), (390, .iconst 3, 1, 391), (391, .iadd, 1, 392), (392, .iaload, 1, 393), (393, .aload_n 0, 1, 394), (394, .iload 4, 2, 396), (396, .iconst 4, 1, 397), (397, .iadd, 1, 398), (398, .iaload, 1, 399), (399, .aload_n 3, 1, 400), (400, .invokestatic 92, 3, 403), (403, .istore 5, 2, 405), (405, .aload_n 2, 1, 406), (406, .aload_n 0, 1, 407), (407, .iload 4, 2, 409), (409, .iconst 1, 1, 410), (410, .iadd, 1, 411), (411, .iaload, 1, 412), (412, .aload_n 0, 1, 413), (413, .iload 4, 2, 415), (415, .iconst 2, 1, 416), (416, .iadd, 1, 417), (417, .iaload, 1, 418), (418, .aload_n 0, 1, 419), (419, .iload 4, 2, 421), (421, .iconst 3, 1, 422), (422, .iadd, 1, 423), (423, .iaload, 1, 424), (424, .aload_n 0, 1, 425), (425, .iload 4, 2, 427), (427, .iconst 4, 1, 428), (428, .iadd, 1, 429), (429, .iaload, 1, 430), (430, .invokevirtual 94, 3, 433), (433, .istore 6, 2, 435), (435, .aload_n 2, 1, 436), (436, .invokevirtual 75, 3, 439), (439, .iload 5, 2, 441), (441, .if_icmp .eq 5, 3, 444)]
theorem dt_Lw_law_3 : ev_dall m_Lw_law tb_Lw_law_3 := by decide +kernel
def tb_Lw_law_4 : ev_tab := [(444, .iconst 0, 1, 445), (445, .ireturn, 1, 446), (446, .iload 5, 2, 448), (448, .ifCond .ne 15, 3, 451), (451, .aload_n 3, 1, 452), (452, .iconst 0, 1, 453), (453, .laload, 1, 454), (454, .iload 6, 2, 456), (456, .i2l, 1, 457), (457, .lcmp, 1, 458), (458, .ifCond .eq 5, 3, 461), (461, .iconst 0, 1, 462), (462, .ireturn, 1, 463), (463, .goto 1021, 3, 466), (466, .aload_n 1, 1, 467), (467, .aload_n 0, 1, 468), (468, .iload 4, 2, 470), (470, .iconst 1, 1, 471), (471, .iadd, 1, 472), (472, .iaload, 1, 473), (473, .aload_n 0, 1, 474), (474, .iload 4, 2, 476), (476, .iconst 2, 1, 477), (477, .iadd, 1, 478), (478, .iaload, 1, 479), (479, .aload_n 0, 1, 480), (480, .iload 4, 2, 482), (482, .iconst 3, 1, 483), (483, .iadd, 1, 484), (484, .iaload, 1, 485), (485, .invokevirtual 95, 3, 488), (488, .aload_n 2, 1, 489), (489, .aload_n 0, 1, 490), (490, .iload 4, 2, 492), (492, .iconst 1, 1, 493), (493, .iadd, 1, 494), (494, .iaload, 1, 495), (495, .aload_n 0, 1, 496), (496, .iload 4, 2, 498), (498, .iconst 2, 1, 499), (499, .iadd, 1, 500), (500, .iaload, 1, 501), (501, .aload_n 0, 1, 502), (502, .iload 4, 2, 504), (504, .iconst 3, 1, 505), (505, .iadd, 1, 506), (506, .iaload, 1, 507), (507, .invokevirtual 98, 3, 510), (510, .if_icmp .eq 974, 3, 513), (513, .iconst 0, 1, 514), (514, .ireturn, 1, 515), (515, .aload_n 1, 1, 516), (516, .aload_n 0, 1, 517), (517, .iload 4, 2, 519), (519, .iconst 1, 1, 520), (520, .iadd, 1, 521), (521, .iaload, 1, 522), (522, .aload_n 0, 1, 523), (523, .iload 4, 2, 525), (525, .iconst 2, 1, 526)]
theorem dt_Lw_law_4 : ev_dall m_Lw_law tb_Lw_law_4 := by decide +kernel
def tb_Lw_law_5 : ev_tab := [(526, .iadd, 1, 527), (527, .iaload, 1, 528), (528, .aload_n 0, 1, 529), (529, .iload 4, 2, 531), (531, .iconst 3, 1, 532), (532, .iadd, 1, 533), (533, .iaload, 1, 534), (534, .aload_n 3, 1, 535), (535, .invokestatic 99, 3, 538), (538, .istore 5, 2, 540), (540, .aload_n 2, 1, 541), (541, .aload_n 0, 1, 542), (542, .iload 4, 2, 544), (544, .iconst 1, 1, 545), (545, .iadd, 1, 546), (546, .iaload, 1, 547), (547, .aload_n 0, 1, 548), (548, .iload 4, 2, 550), (550, .iconst 2, 1, 551), (551, .iadd, 1, 552), (552, .iaload, 1, 553), (553, .aload_n 0, 1, 554), (554, .iload 4, 2, 556), (556, .iconst 3, 1, 557), (557, .iadd, 1, 558), (558, .iaload, 1, 559), (559, .invokevirtual 102, 3, 562), (562, .istore 6, 2, 564), (564, .aload_n 2, 1, 565), (565, .invokevirtual 75, 3, 568), (568, .iload 5, 2, 570), (570, .if_icmp .eq 5, 3, 573), (573, .iconst 0, 1, 574), (574, .ireturn, 1, 575), (575, .iload 5, 2, 577), (577, .ifCond .ne 22, 3, 580), (580, .aload_n 3, 1, 581), (581, .iconst 0, 1, 582), (582, .laload, 1, 583), (583, .iload 6, 2, 585), (585, .ifCond .eq 7, 3, 588), (588, .lconst 1, 1, 589), (589, .goto 4, 3, 592), (592, .lconst 0, 1, 593), (593, .lcmp, 1, 594), (594, .ifCond .eq 5, 3, 597), (597, .iconst 0, 1, 598), (598, .ireturn, 1, 599), (599, .goto 885, 3, 602), (602, .aload_n 1, 1, 603), (603, .aload_n 0, 1, 604), (604, .iload 4, 2, 606), (606, .iconst 1, 1, 607), (607, .iadd, 1, 608), (608, .iaload, 1, 609), (609, .aload_n 0, 1, 610), (610, .iload 4, 2, 612), (612, .iconst 2, 1, 613), (613, .iadd, 1, 614), (614, .iaload, 1, 615)]
theorem dt_Lw_law_5 : ev_dall m_Lw_law tb_Lw_law_5 := by decide +kernel
def tb_Lw_law_6 : ev_tab := [(615, .aload_n 0, 1, 616), (616, .iload 4, 2, 618), (618, .iconst 3, 1, 619), (619, .iadd, 1, 620), (620, .iaload, 1, 621), (621, .aload_n 3, 1, 622), (622, .invokestatic 103, 3, 625), (625, .istore 5, 2, 627), (627, .aload_n 2, 1, 628), (628, .aload_n 0, 1, 629), (629, .iload 4, 2, 631), (631, .iconst 1, 1, 632), (632, .iadd, 1, 633), (633, .iaload, 1, 634), (634, .aload_n 0, 1, 635), (635, .iload 4, 2, 637), (637, .iconst 2, 1, 638), (638, .iadd, 1, 639), (639, .iaload, 1, 640), (640, .aload_n 0, 1, 641), (641, .iload 4, 2, 643), (643, .iconst 3, 1, 644), (644, .iadd, 1, 645), (645, .iaload, 1, 646), (646, .invokevirtual 105, 3, 649), (649, .istore 6, 2, 651), (651, .aload_n 2, 1, 652), (652, .invokevirtual 75, 3, 655), (655, .iload 5, 2, 657), (657, .if_icmp .eq 5, 3, 660), (660, .iconst 0, 1, 661), (661, .ireturn, 1, 662), (662, .iload 5, 2, 664), (664, .ifCond .ne 15, 3, 667), (667, .aload_n 3, 1, 668), (668, .iconst 0, 1, 669), (669, .laload, 1, 670), (670, .iload 6, 2, 672), (672, .i2l, 1, 673), (673, .lcmp, 1, 674), (674, .ifCond .eq 5, 3, 677), (677, .iconst 0, 1, 678), (678, .ireturn, 1, 679), (679, .goto 805, 3, 682), (682, .aload_n 1, 1, 683), (683, .aload_n 0, 1, 684), (684, .iload 4, 2, 686), (686, .iconst 1, 1, 687), (687, .iadd, 1, 688), (688, .iaload, 1, 689), (689, .aload_n 0, 1, 690), (690, .iload 4, 2, 692), (692, .iconst 2, 1, 693), (693, .iadd, 1, 694), (694, .iaload, 1, 695), (695, .aload_n 0, 1, 696), (696, .iload 4, 2, 698), (698, .iconst 3, 1, 699), (699, .iadd, 1, 700), (700, .iaload, 1, 701)]
theorem dt_Lw_law_6 : ev_dall m_Lw_law tb_Lw_law_6 := by decide +kernel
def tb_Lw_law_7 : ev_tab := [(701, .aload_n 3, 1, 702), (702, .invokestatic 106, 3, 705), (705, .istore 5, 2, 707), (707, .aload_n 2, 1, 708), (708, .aload_n 0, 1, 709), (709, .iload 4, 2, 711), (711, .iconst 1, 1, 712), (712, .iadd, 1, 713), (713, .iaload, 1, 714), (714, .aload_n 0, 1, 715), (715, .iload 4, 2, 717), (717, .iconst 2, 1, 718), (718, .iadd, 1, 719), (719, .iaload, 1, 720), (720, .aload_n 0, 1, 721), (721, .iload 4, 2, 723), (723, .iconst 3, 1, 724), (724, .iadd, 1, 725), (725, .iaload, 1, 726), (726, .invokevirtual 108, 3, 729), (729, .istore 6, 2, 731), (731, .aload_n 2, 1, 732), (732, .invokevirtual 75, 3, 735), (735, .iload 5, 2, 737), (737, .if_icmp .eq 5, 3, 740), (740, .iconst 0, 1, 741), (741, .ireturn, 1, 742), (742, .iload 5, 2, 744), (744, .ifCond .ne 15, 3, 747), (747, .aload_n 3, 1, 748), (748, .iconst 0, 1, 749), (749, .laload, 1, 750), (750, .iload 6, 2, 752), (752, .i2l, 1, 753), (753, .lcmp, 1, 754), (754, .ifCond .eq 5, 3, 757), (757, .iconst 0, 1, 758), (758, .ireturn, 1, 759), (759, .goto 725, 3, 762), (762, .aload_n 1, 1, 763), (763, .invokevirtual 109, 3, 766), (766, .aload_n 2, 1, 767), (767, .invokevirtual 112, 3, 770), (770, .goto 714, 3, 773), (773, .aload_n 1, 1, 774), (774, .aload_n 0, 1, 775), (775, .iload 4, 2, 777), (777, .iconst 1, 1, 778), (778, .iadd, 1, 779), (779, .iaload, 1, 780), (780, .aload_n 0, 1, 781), (781, .iload 4, 2, 783), (783, .iconst 2, 1, 784), (784, .iadd, 1, 785), (785, .iaload, 1, 786), (786, .aload_n 0, 1, 787), (787, .iload 4, 2, 789), (789, .iconst 3, 1, 790), (790, .iadd, 1, 791), (791, .iaload, 1, 792)]
theorem dt_Lw_law_7 : ev_dall m_Lw_law tb_Lw_law_7 := by decide +kernel
def tb_Lw_law_8 : ev_tab := [(792, .aload_n 3, 1, 793), (793, .invokestatic 113, 3, 796), (796, .istore 5, 2, 798), (798, .aload_n 2, 1, 799), (799, .aload_n 0, 1, 800), (800, .iload 4, 2, 802), (802, .iconst 1, 1, 803), (803, .iadd, 1, 804), (804, .iaload, 1, 805), (805, .aload_n 0, 1, 806), (806, .iload 4, 2, 808), (808, .iconst 2, 1, 809), (809, .iadd, 1, 810), (810, .iaload, 1, 811), (811, .aload_n 0, 1, 812), (812, .iload 4, 2, 814), (814, .iconst 3, 1, 815), (815, .iadd, 1, 816), (816, .iaload, 1, 817), (817, .invokevirtual 115, 3, 820), (820, .istore 6, 2, 822), (822, .aload_n 2, 1, 823), (823, .invokevirtual 75, 3, 826), (826, .iload 5, 2, 828), (828, .if_icmp .eq 5, 3, 831), (831, .iconst 0, 1, 832), (832, .ireturn, 1, 833), (833, .iload 5, 2, 835), (835, .ifCond .ne 15, 3, 838), (838, .aload_n 3, 1, 839), (839, .iconst 0, 1, 840), (840, .laload, 1, 841), (841, .iload 6, 2, 843), (843, .i2l, 1, 844), (844, .lcmp, 1, 845), (845, .ifCond .eq 5, 3, 848), (848, .iconst 0, 1, 849), (849, .ireturn, 1, 850), (850, .goto 634, 3, 853), (853, .aload_n 1, 1, 854), (854, .aload_n 0, 1, 855), (855, .iload 4, 2, 857), (857, .iconst 1, 1, 858), (858, .iadd, 1, 859), (859, .iaload, 1, 860), (860, .aload_n 3, 1, 861), (861, .invokestatic 116, 3, 864), (864, .istore 5, 2, 866), (866, .aload_n 2, 1, 867), (867, .aload_n 0, 1, 868), (868, .iload 4, 2, 870), (870, .iconst 1, 1, 871), (871, .iadd, 1, 872), (872, .iaload, 1, 873), (873, .invokevirtual 119, 3, 876), (876, .istore 6, 2, 878), (878, .aload_n 2, 1, 879), (879, .invokevirtual 75, 3, 882), (882, .iload 5, 2, 884), (884, .if_icmp .eq 5, 3, 887)]
theorem dt_Lw_law_8 : ev_dall m_Lw_law tb_Lw_law_8 := by decide +kernel
def tb_Lw_law_9 : ev_tab := [(887, .iconst 0, 1, 888), (888, .ireturn, 1, 889), (889, .iload 5, 2, 891), (891, .ifCond .ne 15, 3, 894), (894, .aload_n 3, 1, 895), (895, .iconst 0, 1, 896), (896, .laload, 1, 897), (897, .iload 6, 2, 899), (899, .i2l, 1, 900), (900, .lcmp, 1, 901), (901, .ifCond .eq 5, 3, 904), (904, .iconst 0, 1, 905), (905, .ireturn, 1, 906), (906, .goto 578, 3, 909), (909, .aload_n 1, 1, 910), (910, .aload_n 0, 1, 911), (911, .iload 4, 2, 913), (913, .iconst 1, 1, 914), (914, .iadd, 1, 915), (915, .iaload, 1, 916), (916, .aload_n 0, 1, 917), (917, .iload 4, 2, 919), (919, .iconst 2, 1, 920), (920, .iadd, 1, 921), (921, .iaload, 1, 922), (922, .aload_n 3, 1, 923), (923, .invokestatic 120, 3, 926), (926, .istore 5, 2, 928), (928, .aload_n 2, 1, 929), (929, .aload_n 0, 1, 930), (930, .iload 4, 2, 932), (932, .iconst 1, 1, 933), (933, .iadd, 1, 934), (934, .iaload, 1, 935), (935, .aload_n 0, 1, 936), (936, .iload 4, 2, 938), (938, .iconst 2, 1, 939), (939, .iadd, 1, 940), (940, .iaload, 1, 941), (941, .invokevirtual 122, 3, 944), (944, .istore 6, 2, 946), (946, .aload_n 2, 1, 947), (947, .invokevirtual 75, 3, 950), (950, .iload 5, 2, 952), (952, .if_icmp .eq 5, 3, 955), (955, .iconst 0, 1, 956), (956, .ireturn, 1, 957), (957, .iload 5, 2, 959), (959, .ifCond .ne 15, 3, 962), (962, .aload_n 3, 1, 963), (963, .iconst 0, 1, 964), (964, .laload, 1, 965), (965, .iload 6, 2, 967), (967, .i2l, 1, 968), (968, .lcmp, 1, 969), (969, .ifCond .eq 5, 3, 972), (972, .iconst 0, 1, 973), (973, .ireturn, 1, 974), (974, .goto 510, 3, 977), (977, .aload_n 1, 1, 978)]
theorem dt_Lw_law_9 : ev_dall m_Lw_law tb_Lw_law_9 := by decide +kernel
def tb_Lw_law_10 : ev_tab := [(978, .aload_n 0, 1, 979), (979, .iload 4, 2, 981), (981, .iconst 1, 1, 982), (982, .iadd, 1, 983), (983, .iaload, 1, 984), (984, .aload_n 0, 1, 985), (985, .iload 4, 2, 987), (987, .iconst 2, 1, 988), (988, .iadd, 1, 989), (989, .iaload, 1, 990), (990, .aload_n 3, 1, 991), (991, .invokestatic 123, 3, 994), (994, .istore 5, 2, 996), (996, .aload_n 2, 1, 997), (997, .aload_n 0, 1, 998), (998, .iload 4, 2, 1000), (1000, .iconst 1, 1, 1001), (1001, .iadd, 1, 1002), (1002, .iaload, 1, 1003), (1003, .aload_n 0, 1, 1004), (1004, .iload 4, 2, 1006), (1006, .iconst 2, 1, 1007), (1007, .iadd, 1, 1008), (1008, .iaload, 1, 1009), (1009, .invokevirtual 125, 3, 1012), (1012, .istore 6, 2, 1014), (1014, .aload_n 2, 1, 1015), (1015, .invokevirtual 75, 3, 1018), (1018, .iload 5, 2, 1020), (1020, .if_icmp .eq 5, 3, 1023), (1023, .iconst 0, 1, 1024), (1024, .ireturn, 1, 1025), (1025, .iload 5, 2, 1027), (1027, .ifCond .ne 15, 3, 1030), (1030, .aload_n 3, 1, 1031), (1031, .iconst 0, 1, 1032), (1032, .laload, 1, 1033), (1033, .iload 6, 2, 1035), (1035, .i2l, 1, 1036), (1036, .lcmp, 1, 1037), (1037, .ifCond .eq 5, 3, 1040), (1040, .iconst 0, 1, 1041), (1041, .ireturn, 1, 1042), (1042, .goto 442, 3, 1045), (1045, .aload_n 1, 1, 1046), (1046, .aload_n 0, 1, 1047), (1047, .iload 4, 2, 1049), (1049, .iconst 1, 1, 1050), (1050, .iadd, 1, 1051), (1051, .iaload, 1, 1052), (1052, .aload_n 0, 1, 1053), (1053, .iload 4, 2, 1055), (1055, .iconst 2, 1, 1056), (1056, .iadd, 1, 1057), (1057, .iaload, 1, 1058), (1058, .aload_n 3, 1, 1059), (1059, .invokestatic 126, 3, 1062), (1062, .istore 5, 2, 1064), (1064, .aload_n 2, 1, 1065), (1065, .aload_n 0, 1, 1066)]
theorem dt_Lw_law_10 : ev_dall m_Lw_law tb_Lw_law_10 := by decide +kernel
def tb_Lw_law_11 : ev_tab := [(1066, .iload 4, 2, 1068), (1068, .iconst 1, 1, 1069), (1069, .iadd, 1, 1070), (1070, .iaload, 1, 1071), (1071, .aload_n 0, 1, 1072), (1072, .iload 4, 2, 1074), (1074, .iconst 2, 1, 1075), (1075, .iadd, 1, 1076), (1076, .iaload, 1, 1077), (1077, .invokevirtual 128, 3, 1080), (1080, .istore 6, 2, 1082), (1082, .aload_n 2, 1, 1083), (1083, .invokevirtual 75, 3, 1086), (1086, .iload 5, 2, 1088), (1088, .if_icmp .eq 5, 3, 1091), (1091, .iconst 0, 1, 1092), (1092, .ireturn, 1, 1093), (1093, .iload 5, 2, 1095), (1095, .ifCond .ne 15, 3, 1098), (1098, .aload_n 3, 1, 1099), (1099, .iconst 0, 1, 1100), (1100, .laload, 1, 1101), (1101, .iload 6, 2, 1103), (1103, .i2l, 1, 1104), (1104, .lcmp, 1, 1105), (1105, .ifCond .eq 5, 3, 1108), (1108, .iconst 0, 1, 1109), (1109, .ireturn, 1, 1110), (1110, .goto 374, 3, 1113), (1113, .aload_n 1, 1, 1114), (1114, .aload_n 0, 1, 1115), (1115, .iload 4, 2, 1117), (1117, .iconst 1, 1, 1118), (1118, .iadd, 1, 1119), (1119, .iaload, 1, 1120), (1120, .invokevirtual 129, 3, 1123), (1123, .aload_n 2, 1, 1124), (1124, .aload_n 0, 1, 1125), (1125, .iload 4, 2, 1127), (1127, .iconst 1, 1, 1128), (1128, .iadd, 1, 1129), (1129, .iaload, 1, 1130), (1130, .invokevirtual 132, 3, 1133), (1133, .if_icmp .eq 351, 3, 1136), (1136, .iconst 0, 1, 1137), (1137, .ireturn, 1, 1138), (1138, .aload_n 1, 1, 1139), (1139, .aload_n 0, 1, 1140), (1140, .iload 4, 2, 1142), (1142, .iconst 1, 1, 1143), (1143, .iadd, 1, 1144), (1144, .iaload, 1, 1145), (1145, .aload_n 0, 1, 1146), (1146, .iload 4, 2, 1148), (1148, .iconst 2, 1, 1149), (1149, .iadd, 1, 1150), (1150, .iaload, 1, 1151), (1151, .aload_n 0, 1, 1152), (1152, .iload 4, 2, 1154), (1154, .iconst 3, 1, 1155)]
theorem dt_Lw_law_11 : ev_dall m_Lw_law tb_Lw_law_11 := by decide +kernel
def tb_Lw_law_12 : ev_tab := [(1155, .iadd, 1, 1156), (1156, .iaload, 1, 1157), (1157, .aload_n 0, 1, 1158), (1158, .iload 4, 2, 1160), (1160, .iconst 4, 1, 1161), (1161, .iadd, 1, 1162), (1162, .iaload, 1, 1163), (1163, .aload_n 3, 1, 1164), (1164, .invokestatic 133, 3, 1167), (1167, .istore 5, 2, 1169), (1169, .aload_n 2, 1, 1170), (1170, .aload_n 0, 1, 1171), (1171, .iload 4, 2, 1173), (1173, .iconst 1, 1, 1174), (1174, .iadd, 1, 1175), (1175, .iaload, 1, 1176), (1176, .aload_n 0, 1, 1177), (1177, .iload 4, 2, 1179), (1179, .iconst 2, 1, 1180), (1180, .iadd, 1, 1181), (1181, .iaload, 1, 1182), (1182, .aload_n 0, 1, 1183), (1183, .iload 4, 2, 1185), (1185, .iconst 3, 1, 1186), (1186, .iadd, 1, 1187), (1187, .iaload, 1, 1188), (1188, .aload_n 0, 1, 1189), (1189, .iload 4, 2, 1191), (1191, .iconst 4, 1, 1192), (1192, .iadd, 1, 1193), (1193, .iaload, 1, 1194), (1194, .invokevirtual 135, 3, 1197), (1197, .istore 6, 2, 1199), (1199, .aload_n 2, 1, 1200), (1200, .invokevirtual 75, 3, 1203), (1203, .iload 5, 2, 1205), (1205, .if_icmp .eq 5, 3, 1208), (1208, .iconst 0, 1, 1209), (1209, .ireturn, 1, 1210), (1210, .iload 5, 2, 1212), (1212, .ifCond .ne 15, 3, 1215), (1215, .aload_n 3, 1, 1216), (1216, .iconst 0, 1, 1217), (1217, .laload, 1, 1218), (1218, .iload 6, 2, 1220), (1220, .i2l, 1, 1221), (1221, .lcmp, 1, 1222), (1222, .ifCond .eq 5, 3, 1225), (1225, .iconst 0, 1, 1226), (1226, .ireturn, 1, 1227), (1227, .goto 257, 3, 1230), (1230, .aload_n 1, 1, 1231), (1231, .aload_n 0, 1, 1232), (1232, .iload 4, 2, 1234), (1234, .iconst 1, 1, 1235), (1235, .iadd, 1, 1236), (1236, .iaload, 1, 1237), (1237, .aload_n 0, 1, 1238), (1238, .iload 4, 2, 1240), (1240, .iconst 2, 1, 1241)]
theorem dt_Lw_law_12 : ev_dall m_Lw_law tb_Lw_law_12 := by decide +kernel
def tb_Lw_law_13 : ev_tab := [(1241, .iadd, 1, 1242), (1242, .iaload, 1, 1243), (1243, .aload_n 3, 1, 1244), (1244, .invokestatic 136, 3, 1247), (1247, .istore 5, 2, 1249), (1249, .aload_n 2, 1, 1250), (1250, .aload_n 0, 1, 1251), (1251, .iload 4, 2, 1253), (1253, .iconst 1, 1, 1254), (1254, .iadd, 1, 1255), (1255, .iaload, 1, 1256), (1256, .aload_n 0, 1, 1257), (1257, .iload 4, 2, 1259), (1259, .iconst 2, 1, 1260), (1260, .iadd, 1, 1261), (1261, .iaload, 1, 1262), (1262, .invokevirtual 138, 3, 1265), (1265, .istore 6, 2, 1267), (1267, .aload_n 2, 1, 1268), (1268, .invokevirtual 75, 3, 1271), (1271, .iload 5, 2, 1273), (1273, .if_icmp .eq 5, 3, 1276), (1276, .iconst 0, 1, 1277), (1277, .ireturn, 1, 1278), (1278, .iload 5, 2, 1280), (1280, .ifCond .ne 15, 3, 1283), (1283, .aload_n 3, 1, 1284), (1284, .iconst 0, 1, 1285), (1285, .laload, 1, 1286), (1286, .iload 6, 2, 1288), (1288, .i2l, 1, 1289), (1289, .lcmp, 1, 1290), (1290, .ifCond .eq 5, 3, 1293), (1293, .iconst 0, 1, 1294), (1294, .ireturn, 1, 1295), (1295, .goto 189, 3, 1298), (1298, .aload_n 1, 1, 1299), (1299, .aload_n 0, 1, 1300), (1300, .iload 4, 2, 1302), (1302, .iconst 1, 1, 1303), (1303, .iadd, 1, 1304), (1304, .iaload, 1, 1305), (1305, .aload_n 0, 1, 1306), (1306, .iload 4, 2, 1308), (1308, .iconst 2, 1, 1309), (1309, .iadd, 1, 1310), (1310, .iaload, 1, 1311), (1311, .aload_n 0, 1, 1312), (1312, .iload 4, 2, 1314), (1314, .iconst 3, 1, 1315), (1315, .iadd, 1, 1316), (1316, .iaload, 1, 1317), (1317, .invokevirtual 139, 3, 1320), (1320, .aload_n 2, 1, 1321), (1321, .aload_n 0, 1, 1322), (1322, .iload 4, 2, 1324), (1324, .iconst 1, 1, 1325), (1325, .iadd, 1, 1326), (1326, .iaload, 1, 1327), (1327, .aload_n 0, 1, 1328)]
theorem dt_Lw_law_13 : ev_dall m_Lw_law tb_Lw_law_13 := by decide +kernel
def tb_Lw_law_14 : ev_tab := [(1328, .iload 4, 2, 1330), (1330, .iconst 2, 1, 1331), (1331, .iadd, 1, 1332), (1332, .iaload, 1, 1333), (1333, .aload_n 0, 1, 1334), (1334, .iload 4, 2, 1336), (1336, .iconst 3, 1, 1337), (1337, .iadd, 1, 1338), (1338, .iaload, 1, 1339), (1339, .invokevirtual 142, 3, 1342), (1342, .if_icmp .eq 142, 3, 1345), (1345, .iconst 0, 1, 1346), (1346, .ireturn, 1, 1347), (1347, .aload_n 1, 1, 1348), (1348, .aload_n 0, 1, 1349), (1349, .iload 4, 2, 1351), (1351, .iconst 1, 1, 1352), (1352, .iadd, 1, 1353), (1353, .iaload, 1, 1354), (1354, .invokevirtual 143, 3, 1357), (1357, .aload_n 2, 1, 1358), (1358, .aload_n 0, 1, 1359), (1359, .iload 4, 2, 1361), (1361, .iconst 1, 1, 1362), (1362, .iadd, 1, 1363), (1363, .iaload, 1, 1364), (1364, .invokevirtual 146, 3, 1367), (1367, .if_icmp .eq 117, 3, 1370), (1370, .iconst 0, 1, 1371), (1371, .ireturn, 1, 1372), (1372, .aload_n 1, 1, 1373), (1373, .aload_n 0, 1, 1374), (1374, .iload 4, 2, 1376), (1376, .iconst 1, 1, 1377), (1377, .iadd, 1, 1378), (1378, .iaload, 1, 1379), (1379, .aload_n 3, 1, 1380), (1380, .invokestatic 147, 3, 1383), (1383, .istore 5, 2, 1385), (1385, .aload_n 2, 1, 1386), (1386, .aload_n 0, 1, 1387), (1387, .iload 4, 2, 1389), (1389, .iconst 1, 1, 1390), (1390, .iadd, 1, 1391), (1391, .iaload, 1, 1392), (1392, .invokevirtual 149, 3, 1395), (1395, .istore 6, 2, 1397), (1397, .aload_n 2, 1, 1398), (1398, .invokevirtual 75, 3, 1401), (1401, .iload 5, 2, 1403), (1403, .if_icmp .eq 5, 3, 1406), (1406, .iconst 0, 1, 1407), (1407, .ireturn, 1, 1408), (1408, .iload 5, 2, 1410), (1410, .ifCond .ne 15, 3, 1413), (1413, .aload_n 3, 1, 1414), (1414, .iconst 0, 1, 1415), (1415, .laload, 1, 1416), (1416, .iload 6, 2, 1418), (1418, .i2l, 1, 1419)]
theorem dt_Lw_law_14 : ev_dall m_Lw_law tb_Lw_law_14 := by decide +kernel
def tb_Lw_law_15 : ev_tab := [(1419, .lcmp, 1, 1420), (1420, .ifCond .eq 5, 3, 1423), (1423, .iconst 0, 1, 1424), (1424, .ireturn, 1, 1425), (1425, .goto 59, 3, 1428), (1428, .aload_n 1, 1, 1429), (1429, .aload_n 0, 1, 1430), (1430, .iload 4, 2, 1432), (1432, .iconst 1, 1, 1433), (1433, .iadd, 1, 1434), (1434, .iaload, 1, 1435), (1435, .aload_n 3, 1, 1436), (1436, .invokestatic 150, 3, 1439), (1439, .istore 5, 2, 1441), (1441, .aload_n 2, 1, 1442), (1442, .aload_n 0, 1, 1443), (1443, .iload 4, 2, 1445), (1445, .iconst 1, 1, 1446), (1446, .iadd, 1, 1447), (1447, .iaload, 1, 1448), (1448, .invokevirtual 152, 3, 1451), (1451, .istore 6, 2, 1453), (1453, .aload_n 2, 1, 1454), (1454, .invokevirtual 75, 3, 1457), (1457, .iload 5, 2, 1459), (1459, .if_icmp .eq 5, 3, 1462), (1462, .iconst 0, 1, 1463), (1463, .ireturn, 1, 1464), (1464, .iload 5, 2, 1466), (1466, .ifCond .ne 15, 3, 1469), (1469, .aload_n 3, 1, 1470), (1470, .iconst 0, 1, 1471), (1471, .laload, 1, 1472), (1472, .iload 6, 2, 1474), (1474, .i2l, 1, 1475), (1475, .lcmp, 1, 1476), (1476, .ifCond .eq 5, 3, 1479), (1479, .iconst 0, 1, 1480), (1480, .ireturn, 1, 1481), (1481, .goto 3, 3, 1484), (1484, .iinc 4 5, 3, 1487), (1487, .goto (-1464), 3, 1490), (1490, .iconst 1, 1, 1491), (1491, .ireturn, 1, 1492)]
theorem dt_Lw_law_15 : ev_dall m_Lw_law tb_Lw_law_15 := by decide +kernel
end
section
/-! Bits of masks. The family bt is pasted from kit/laws/BITS.to-paste. -/
/-! ===== Int32 by its bits: bt x i ===== -/
def bt (x : Int32) (i : Nat) : Bool := x.toBitVec.getLsbD i
theorem b_ext {x y : Int32} (h : ∀ i, i < 32 → bt x i = bt y i) : x = y := Int32.toBitVec_inj.mp (BitVec.eq_of_getLsbD_eq (fun i hi => h i hi))
theorem b_or (x y : Int32) (i : Nat) : bt (x ||| y) i = (bt x i || bt y i) := by unfold bt; rw [Int32.toBitVec_or, BitVec.getLsbD_or]
theorem b_and (x y : Int32) (i : Nat) : bt (x &&& y) i = (bt x i && bt y i) := by unfold bt; rw [Int32.toBitVec_and, BitVec.getLsbD_and]
theorem b_xor (x y : Int32) (i : Nat) : bt (x ^^^ y) i = (bt x i ^^ bt y i) := by unfold bt; rw [Int32.toBitVec_xor, BitVec.getLsbD_xor]
theorem b_big {x : Int32} {i : Nat} (h : 32 ≤ i) : bt x i = false := BitVec.getLsbD_of_ge _ _ h
theorem b_m1 : ∀ i, i < 32 → bt (-1) i = true := by decide +kernel
theorem b_0 (i : Nat) : bt 0 i = false := BitVec.getLsbD_zero
theorem s_l : ∀ n, n < 32 → ((nI n &&& 31).toBitVec.smod 32).toNat = n := by decide +kernel
theorem b_shl (n : Nat) (hn : n < 32) (x : Int32) {i : Nat} (hi : i < 32) : bt (x <<< (nI n &&& 31)) i = (decide (n ≤ i) && bt x (i - n)) := by
  unfold bt
  rw [Int32.toBitVec_shiftLeft]
  show (x.toBitVec <<< ((nI n &&& 31).toBitVec.smod 32).toNat).getLsbD i = _
  rw [s_l n hn, BitVec.getLsbD_shiftLeft]
  rcases Nat.lt_or_ge i n with h | h
  · simp [h, Nat.not_le.mpr h]
  · simp [hi, h, Nat.not_lt.mpr h]
theorem b_sshr (n : Nat) (hn : n < 32) (x : Int32) {i : Nat} (hi : i < 32) : bt (x >>> (nI n &&& 31)) i = if n + i < 32 then bt x (n + i) else bt x 31 := by
  unfold bt
  rw [Int32.toBitVec_shiftRight]
  show (x.toBitVec.sshiftRight ((nI n &&& 31).toBitVec.smod 32).toNat).getLsbD i = _
  rw [s_l n hn, BitVec.getLsbD_sshiftRight, BitVec.msb_eq_getLsbD_last]
  simp [hi]
theorem q_one (i : Nat) : bt (nI 1) i = decide (i = 0) := by
  rcases Nat.lt_or_ge i 32 with h | h
  · exact (by decide +kernel : ∀ i, i < 32 → bt (nI 1) i = decide (i = 0)) i h
  · rw [b_big h, decide_eq_false (by omega)]
/-- one bit -/
theorem q_sh1 {n i : Nat} (hn : n < 32) (hi : i < 32) : bt (nI 1 <<< (nI n &&& 31)) i = decide (i = n) := by
  rw [b_shl n hn _ hi, q_one]
  by_cases h : i = n
  · subst h
    simp
  · rw [decide_eq_false h]
    by_cases h2 : n ≤ i
    · rw [decide_eq_false (by omega : ¬ i - n = 0), Bool.and_false]
    · rw [decide_eq_false h2, Bool.false_and]
/-- is the bit there -/
theorem q_tst {m : Int32} {i : Nat} (hi : i < 32) : (m >>> (nI i &&& 31)) &&& nI 1 = nI 1 ↔ bt m i = true := by
  constructor
  · intro h
    have h1 := congrArg (fun z => bt z 0) h
    simp only [b_and, q_one] at h1
    rw [b_sshr i hi m (by omega), if_pos (by omega)] at h1
    simpa using h1
  · intro h
    refine b_ext fun j hj => ?_
    rw [b_and, q_one]
    by_cases h0 : j = 0
    · subst h0
      rw [b_sshr i hi m (by omega), if_pos (by omega), Nat.add_zero, h]
      rfl
    · rw [decide_eq_false h0, Bool.and_false]
theorem q_zero {m : Int32} : m = nI 0 ↔ ∀ i, i < 32 → bt m i = false := by
  constructor
  · rintro rfl i hi
    rw [nI_0]
    exact b_0 i
  · intro h
    refine b_ext fun i hi => ?_
    rw [h i hi, nI_0, b_0]
theorem q_not (m : Int32) {i : Nat} (hi : i < 32) : bt (m ^^^ (-1)) i = !bt m i := by
  rw [b_xor, b_m1 i hi]
  cases bt m i <;> rfl
theorem q_0 (i : Nat) : bt (nI 0) i = false := by rw [nI_0]; exact b_0 i
/-! Counting. -/
def cnt (f : Nat → Bool) : Nat → Nat
  | 0 => 0
  | n + 1 => cnt f n + (if f n = true then 1 else 0)
theorem cnt_le (f : Nat → Bool) : ∀ n, cnt f n ≤ n
  | 0 => Nat.le_refl _
  | n + 1 => by
    have := cnt_le f n
    simp only [cnt]
    split <;> omega
theorem cnt_mono {f g : Nat → Bool} : ∀ n, (∀ i, i < n → f i = true → g i = true) → cnt f n ≤ cnt g n
  | 0, _ => Nat.le_refl _
  | n + 1, h => by
    have h1 := cnt_mono n (fun i hi => h i (by omega))
    simp only [cnt]
    by_cases hf : f n = true
    · rw [if_pos hf, if_pos (h n (by omega) hf)]
      omega
    · rw [if_neg hf]
      split <;> omega
theorem cnt_lt {f g : Nat → Bool} : ∀ n, (∀ i, i < n → f i = true → g i = true) → ∀ k, k < n → g k = true → f k = false → cnt f n < cnt g n
  | 0, _, k, hk, _, _ => absurd hk (Nat.not_lt_zero _)
  | n + 1, h, k, hk, hg, hf => by
    simp only [cnt]
    by_cases hkn : k = n
    · subst hkn
      have h1 := cnt_mono (f := f) (g := g) k (fun i hi => h i (by omega))
      rw [if_pos hg, hf]
      simp only [Bool.false_eq_true, if_false]
      omega
    · have h1 := cnt_lt (f := f) (g := g) n (fun i hi => h i (by omega)) k (by omega) hg hf
      by_cases hfn : f n = true
      · rw [if_pos hfn, if_pos (h n (by omega) hfn)]
        omega
      · rw [if_neg hfn]
        split <;> omega
theorem cnt_congr {f g : Nat → Bool} : ∀ n, (∀ i, i < n → f i = g i) → cnt f n = cnt g n
  | 0, _ => rfl
  | n + 1, h => by
    simp only [cnt]
    rw [cnt_congr n (fun i hi => h i (by omega)), h n (by omega)]
end
section
/-! What nodes say: 0 NEITHER, 1 BETTER, 2 WORSE, 3 SAME, as Fin 4. -/
def jn (k : Nat) (a b : Fin 4) : Fin 4 :=
  if k = 9 then (if a = 1 then 2 else if a = 2 then 1 else a) else if k = 7 then (if a = 3 then b else a) else if k = 6 then (if a = 3 then b else if b = 3 then a else if a = b then a else 0) else if a = b then a else 0
def fl (a : Fin 4) : Fin 4 := if a = 1 then 2 else if a = 2 then 1 else a
theorem jn_cases (k : Nat) : jn k = jn 9 ∨ jn k = jn 7 ∨ jn k = jn 6 ∨ jn k = jn 8 := by
  by_cases h9 : k = 9
  · subst h9; exact Or.inl rfl
  by_cases h7 : k = 7
  · subst h7; exact Or.inr (Or.inl rfl)
  by_cases h6 : k = 6
  · subst h6; exact Or.inr (Or.inr (Or.inl rfl))
  refine Or.inr (Or.inr (Or.inr ?_))
  funext a b
  simp [jn, h9, h7, h6]
theorem jn_fl (k : Nat) : ∀ a b : Fin 4, jn k (fl a) (fl b) = fl (jn k a b) := by
  rcases jn_cases k with h | h | h | h <;> rw [h] <;> decide
theorem jn_same (k : Nat) : ∀ a b : Fin 4, jn k a b = 3 → a = 3 ∧ (k ≠ 9 → b = 3) := by
  by_cases h9 : k = 9
  · subst h9
    intro a b h
    exact ⟨by revert a b; decide, fun q => absurd rfl q⟩
  · intro a b h
    have : a = 3 ∧ b = 3 := by
      by_cases h7 : k = 7
      · subst h7; revert a b; decide
      by_cases h6 : k = 6
      · subst h6; revert a b; decide
      have e : jn k = jn 8 := by funext a b; simp [jn, h9, h7, h6]
      rw [e] at h
      revert a b; decide
    exact ⟨this.1, fun _ => this.2⟩
theorem j9 : ∀ a b : Fin 4, jn 9 a b = 1 ↔ a = 2 := by decide
theorem j7 : ∀ a b : Fin 4, jn 7 a b = 1 ↔ a = 1 ∨ (a = 3 ∧ b = 1) := by decide
theorem j6 : ∀ a b : Fin 4, jn 6 a b = 1 ↔ (a = 3 ∧ b = 1) ∨ (a = 1 ∧ b = 3) ∨ (a = 1 ∧ b = 1) := by decide
theorem j8 : ∀ a b : Fin 4, jn 8 a b = 1 ↔ a = 1 ∧ b = 1 := by decide
/-- better than: what is better, joined (a, b: of u and v; a', b': of v and w; a2, b2: of u and w) -/
theorem jn_trans (k : Nat) (a b a' b' a2 b2 : Fin 4) (t1 : a = 1 → a' = 1 → a2 = 1) (t2 : a = 2 → a' = 2 → a2 = 2) (t3 : a = 3 → a2 = a') (t4 : a' = 3 → a2 = a) (u1 : b = 1 → b' = 1 → b2 = 1) (u3 : b = 3 → b2 = b') (u4 : b' = 3 → b2 = b)
    (h1 : jn k a b = 1) (h2 : jn k a' b' = 1) : jn k a2 b2 = 1 := by
  rcases jn_cases k with h | h | h | h <;> rw [h] at h1 h2 ⊢
  · rw [j9] at h1 h2 ⊢
    exact t2 h1 h2
  · rw [j7] at h1 h2 ⊢
    rcases h1 with h1 | ⟨h1, g1⟩
    · rcases h2 with h2 | ⟨h2, g2⟩
      · exact Or.inl (t1 h1 h2)
      · exact Or.inl ((t4 h2).trans h1)
    · rcases h2 with h2 | ⟨h2, g2⟩
      · exact Or.inl ((t3 h1).trans h2)
      · exact Or.inr ⟨(t3 h1).trans h2, u1 g1 g2⟩
  · rw [j6] at h1 h2 ⊢
    rcases h1 with ⟨h1, g1⟩ | ⟨h1, g1⟩ | ⟨h1, g1⟩
    · rcases h2 with ⟨h2, g2⟩ | ⟨h2, g2⟩ | ⟨h2, g2⟩
      · exact Or.inl ⟨(t3 h1).trans h2, u1 g1 g2⟩
      · exact Or.inr (Or.inr ⟨(t3 h1).trans h2, (u4 g2).trans g1⟩)
      · exact Or.inr (Or.inr ⟨(t3 h1).trans h2, u1 g1 g2⟩)
    · rcases h2 with ⟨h2, g2⟩ | ⟨h2, g2⟩ | ⟨h2, g2⟩
      · exact Or.inr (Or.inr ⟨(t4 h2).trans h1, (u3 g1).trans g2⟩)
      · exact Or.inr (Or.inl ⟨t1 h1 h2, (u3 g1).trans g2⟩)
      · exact Or.inr (Or.inr ⟨t1 h1 h2, (u3 g1).trans g2⟩)
    · rcases h2 with ⟨h2, g2⟩ | ⟨h2, g2⟩ | ⟨h2, g2⟩
      · exact Or.inr (Or.inr ⟨(t4 h2).trans h1, u1 g1 g2⟩)
      · exact Or.inr (Or.inr ⟨t1 h1 h2, (u4 g2).trans g1⟩)
      · exact Or.inr (Or.inr ⟨t1 h1 h2, u1 g1 g2⟩)
  · rw [j8] at h1 h2 ⊢
    exact ⟨t1 h1.1 h2.1, u1 h1.2 h2.2⟩
/-- orders and terms: kind, column, left, right, layers, reach -/
abbrev nod : Type := (Nat → Nat) × (Nat → Nat) × (Nat → Int32) × (Nat → Int32) × (Nat → Nat → Int32) × (Nat → Nat → Int32)
abbrev nK (N : nod) : Nat → Nat := N.1
abbrev nC (N : nod) : Nat → Nat := N.2.1
abbrev nA (N : nod) : Nat → Int32 := N.2.2.1
abbrev nB (N : nod) : Nat → Int32 := N.2.2.2.1
abbrev nY (N : nod) : Nat → Nat → Int32 := N.2.2.2.2.1
abbrev nR (N : nod) : Nat → Nat → Int32 := N.2.2.2.2.2
def nL (N : nod) (n : Nat) : Nat := (nA N n).toNatClampNeg
def nQ (N : nod) (n : Nat) : Nat := (nB N n).toNatClampNeg
/-- the distance of x from what lies between lo and hi -/
def dst (lo hi x : Int) : Int := if x < lo then lo - x else if hi < x then x - hi else 0
def gr (x : Int32) : Bool := decide (0 ≤ x) && decide (x < nI 10)
def lyr (f : Nat → Int32) (x : Int32) : Int32 := if gr x = true then f x.toNatClampNeg else -1
/-- x is better than y in the order n -/
def pf (N : nod) (n : Nat) (x y : Int32) : Bool :=
  if nK N n = 0 then decide (x < y) else if nK N n = 1 then decide (y < x)
  else if nK N n = 4 then decide (lyr (nY N n) x ≠ -1) && (decide (lyr (nY N n) y = -1) || decide (lyr (nY N n) x < lyr (nY N n) y))
  else if nK N n = 5 then gr x && gr y && bt (nR N n x.toNatClampNeg) y.toNatClampNeg
  else decide (dst (nA N n).toInt (if nK N n = 2 then nA N n else nB N n).toInt x.toInt < dst (nA N n).toInt (if nK N n = 2 then nA N n else nB N n).toInt y.toInt)
def so (N : nod) (n : Nat) (x y : Int32) : Fin 4 := if x = y then 3 else if pf N n x y = true then 1 else if pf N n y x = true then 2 else 0
def say (N : nod) (u v : Nat → Int32) (n : Nat) : Fin 4 :=
  if nK N n < 6 then so N n (u (nC N n)) (v (nC N n)) else if _h : nL N n < n ∧ nQ N n < n then jn (nK N n) (say N u v (nL N n)) (say N u v (nQ N n)) else 0
termination_by n
decreasing_by all_goals omega
theorem say_o {N : nod} {u v : Nat → Int32} {n : Nat} (h : nK N n < 6) : say N u v n = so N n (u (nC N n)) (v (nC N n)) := by rw [say, if_pos h]
theorem say_t {N : nod} {u v : Nat → Int32} {n : Nat} (h : ¬ nK N n < 6) (hc : nL N n < n ∧ nQ N n < n) : say N u v n = jn (nK N n) (say N u v (nL N n)) (say N u v (nQ N n)) := by rw [say, if_neg h, dif_pos hc]
/-- the reach of a graph is closed and has no circle -/
def okR (f : Nat → Int32) : Prop := (∀ x, x < 10 → bt (f x) x = false) ∧ ∀ x y z, x < 10 → y < 10 → z < 10 → bt (f x) y = true → bt (f y) z = true → bt (f x) z = true
/-- orders are orders; terms are made of earlier nodes -/
def okN (N : nod) (c : Nat) : Prop := (∀ n, n < c → okR (nR N n)) ∧ (∀ n, n < c → ¬ nK N n < 6 → nL N n < n ∧ nQ N n < n)
theorem gr_of {x : Int32} (h : gr x = true) : x.toNatClampNeg < 10 ∧ x = nI x.toNatClampNeg := by
  simp only [gr, Bool.and_eq_true, decide_eq_true_eq] at h
  obtain ⟨j, hj, rfl⟩ := nI_of (x := x) (Int32.not_lt.mpr h.1)
  have h2 := (nI_ltI hj (by omega)).mp h.2
  rw [nI_clamp hj]
  exact ⟨h2, rfl⟩
theorem gr_nI {j : Nat} (h : j < 10) : gr (nI j) = true := by
  simp only [gr, Bool.and_eq_true, decide_eq_true_eq]
  exact ⟨nI_pos' (by omega), nI_lt h (by omega)⟩
theorem pf_irr {N : nod} {n : Nat} (ho : okR (nR N n)) (x : Int32) : pf N n x x = false := by
  unfold pf
  split
  · exact decide_eq_false Int32.lt_irrefl
  split
  · exact decide_eq_false Int32.lt_irrefl
  split
  · by_cases h : lyr (nY N n) x = -1
    · simp [h]
    · simp [h, Int32.lt_irrefl]
  split
  · by_cases h : gr x = true
    · rw [ho.1 _ (gr_of h).1]; simp
    · simp [h]
  · exact decide_eq_false (Int.lt_irrefl _)
theorem pf_tr {N : nod} {n : Nat} (ho : okR (nR N n)) {x y z : Int32} (h1 : pf N n x y = true) (h2 : pf N n y z = true) : pf N n x z = true := by
  unfold pf at h1 h2 ⊢
  split at h1
  · rename_i hk
    simp only [hk, if_true, decide_eq_true_eq] at h1 h2 ⊢
    exact Int32.lt_trans h1 h2
  rename_i hk0
  rw [if_neg hk0] at h2 ⊢
  split at h1
  · rename_i hk
    simp only [hk, if_true, decide_eq_true_eq] at h1 h2 ⊢
    exact Int32.lt_trans h2 h1
  rename_i hk1
  rw [if_neg hk1] at h2 ⊢
  split at h1
  · rename_i hk
    rw [if_pos hk] at h2 ⊢
    simp only [Bool.and_eq_true, Bool.or_eq_true, decide_eq_true_eq] at h1 h2 ⊢
    refine ⟨h1.1, ?_⟩
    rcases h1.2 with h | h
    · exact absurd h h2.1
    · rcases h2.2 with g | g
      · exact Or.inl g
      · exact Or.inr (Int32.lt_trans h g)
  rename_i hk4
  rw [if_neg hk4] at h2 ⊢
  split at h1
  · rename_i hk
    rw [if_pos hk] at h2 ⊢
    simp only [Bool.and_eq_true] at h1 h2 ⊢
    exact ⟨⟨h1.1.1, h2.1.2⟩, ho.2 _ _ _ (gr_of h1.1.1).1 (gr_of h1.1.2).1 (gr_of h2.1.2).1 h1.2 h2.2⟩
  · rename_i hk
    rw [if_neg hk] at h2 ⊢
    simp only [decide_eq_true_eq] at h1 h2 ⊢
    omega
theorem pf_asym {N : nod} {n : Nat} (ho : okR (nR N n)) {x y : Int32} (h : pf N n x y = true) : pf N n y x = false := by
  cases h2 : pf N n y x with
  | false => rfl
  | true =>
    have := pf_tr ho h h2
    rw [pf_irr ho] at this
    cases this
theorem so_fl {N : nod} {n : Nat} (ho : okR (nR N n)) (x y : Int32) : so N n y x = fl (so N n x y) := by
  unfold so
  by_cases h : x = y
  · subst h; simp; decide
  · rw [if_neg h, if_neg (Ne.symm h)]
    by_cases h1 : pf N n x y = true
    · rw [if_pos h1, if_neg (by rw [pf_asym ho h1]; decide), if_pos h1]; decide
    · by_cases h2 : pf N n y x = true
      · simp only [h1, h2, if_true, if_false]; decide
      · simp only [h1, h2, if_false]; decide
theorem so_3 {N : nod} {n : Nat} {x y : Int32} (h : so N n x y = 3) : x = y := by
  unfold so at h
  by_cases e : x = y
  · exact e
  · rw [if_neg e] at h
    split at h
    · exact absurd h (by decide)
    · split at h
      · exact absurd h (by decide)
      · exact absurd h (by decide)
theorem so_1 {N : nod} {n : Nat} {x y : Int32} (h : so N n x y = 1) : x ≠ y ∧ pf N n x y = true := by
  unfold so at h
  by_cases e : x = y
  · rw [if_pos e] at h; exact absurd h (by decide)
  · rw [if_neg e] at h
    refine ⟨e, ?_⟩
    split at h
    · assumption
    · split at h
      · exact absurd h (by decide)
      · exact absurd h (by decide)
theorem so_tr {N : nod} {n : Nat} (ho : okR (nR N n)) {x y z : Int32} (h1 : so N n x y = 1) (h2 : so N n y z = 1) : so N n x z = 1 := by
  have a := (so_1 h1).2
  have b := (so_1 h2).2
  have c := pf_tr ho a b
  unfold so
  by_cases e : x = z
  · subst e
    rw [pf_irr ho] at c
    cases c
  · rw [if_neg e, if_pos c]
section SAY
variable {N : nod} {c : Nat}
theorem say_fl (ho : okN N c) (u v : Nat → Int32) : ∀ n, n < c → say N v u n = fl (say N u v n) := by
  intro n
  induction n using Nat.strongRecOn with
  | _ n ih =>
    intro hn
    by_cases hk : nK N n < 6
    · rw [say_o hk, say_o hk]
      exact so_fl (ho.1 n hn) _ _
    · have hc := ho.2 n hn hk
      rw [say_t hk hc, say_t hk hc, ih _ hc.1 (by omega), ih _ hc.2 (by omega)]
      exact jn_fl _ _ _
theorem say_self (ho : okN N c) (u : Nat → Int32) : ∀ n, n < c → say N u u n = 3 := by
  intro n
  induction n using Nat.strongRecOn with
  | _ n ih =>
    intro hn
    by_cases hk : nK N n < 6
    · rw [say_o hk]; simp [so]
    · have hc := ho.2 n hn hk
      rw [say_t hk hc, ih _ hc.1 (by omega), ih _ hc.2 (by omega)]
      rcases jn_cases (nK N n) with h | h | h | h <;> rw [h] <;> decide
theorem say_3 (ho : okN N c) (u v : Nat → Int32) : ∀ n, n < c → say N u v n = 3 → ∀ w, say N u w n = say N v w n := by
  intro n
  induction n using Nat.strongRecOn with
  | _ n ih =>
    intro hn h w
    by_cases hk : nK N n < 6
    · rw [say_o hk] at h
      rw [say_o hk, say_o hk, so_3 h]
    · have hc := ho.2 n hn hk
      rw [say_t hk hc] at h
      obtain ⟨h1, h2⟩ := jn_same _ _ _ h
      rw [say_t hk hc, say_t hk hc, ih _ hc.1 (by omega) h1 w]
      by_cases h9 : nK N n = 9
      · rw [h9]
        simp [jn]
      · rw [ih _ hc.2 (by omega) (h2 h9) w]
theorem say_3' (ho : okN N c) (u v : Nat → Int32) {n : Nat} (hn : n < c) (h : say N u v n = 3) (w : Nat → Int32) : say N w u n = say N w v n := by
  rw [say_fl ho u w n hn, say_fl ho v w n hn, say_3 ho u v n hn h w]
theorem fl_2 {a : Fin 4} : fl a = 2 ↔ a = 1 := by revert a; decide
theorem fl_1 {a : Fin 4} : fl a = 1 ↔ a = 2 := by revert a; decide
theorem fl_3 {a : Fin 4} : fl a = 3 ↔ a = 3 := by revert a; decide
theorem say_tr (ho : okN N c) : ∀ n, n < c → ∀ u v w : Nat → Int32, say N u v n = 1 → say N v w n = 1 → say N u w n = 1 := by
  intro n
  induction n using Nat.strongRecOn with
  | _ n ih =>
    intro hn u v w h1 h2
    by_cases hk : nK N n < 6
    · rw [say_o hk] at h1 h2 ⊢
      exact so_tr (ho.1 n hn) h1 h2
    · have hc := ho.2 n hn hk
      rw [say_t hk hc] at h1 h2 ⊢
      have hl : nL N n < c := by omega
      have hr : nQ N n < c := by omega
      have tr2 : ∀ m, m < n → say N u v m = 2 → say N v w m = 2 → say N u w m = 2 := by
        intro m hm g1 g2
        have hmc : m < c := by omega
        have a1 : say N v u m = 1 := fl_2.mp (by rw [← say_fl ho v u m hmc]; exact g1)
        have a2 : say N w v m = 1 := fl_2.mp (by rw [← say_fl ho w v m hmc]; exact g2)
        have a3 := ih m hm hmc w v u a2 a1
        rw [say_fl ho w u m hmc, a3]
        decide
      refine jn_trans _ _ _ _ _ _ _ (ih _ hc.1 hl u v w) (tr2 _ hc.1) (fun g => ?_) (fun g => ?_) (ih _ hc.2 hr u v w) (fun g => ?_) (fun g => ?_) h1 h2
      · exact say_3 ho u v _ hl g w
      · exact (say_3' ho v w hl g u).symm
      · exact say_3 ho u v _ hr g w
      · exact (say_3' ho v w hr g u).symm
end SAY
end
section
/-! Graphs: what one comes to along edges, kept up (the class) and sought anew (the reference). e: edges, r: reach, as masks. -/
def okG (e r : Nat → Int32) : Prop := okR r ∧ (∀ x y, x < 10 → y < 10 → bt (e x) y = true → bt (r x) y = true) ∧ ∀ x y, x < 10 → y < 10 → bt (r x) y = true → bt (e x) y = true ∨ ∃ z, z < 10 ∧ bt (r x) z = true ∧ bt (e z) y = true
/-- values 0 .. v - 1 gone through once -/
def sv (e : Nat → Int32) (s : Int32) : Nat → Int32
  | 0 => s
  | v + 1 => if bt (sv e s v) v = true then sv e s v ||| e v else sv e s v
def rn (e : Nat → Int32) (s : Int32) : Nat → Int32
  | 0 => s
  | r + 1 => sv e (rn e s r) 10
theorem sv_mono {e : Nat → Int32} {s : Int32} {y : Nat} (h : bt s y = true) : ∀ v, bt (sv e s v) y = true
  | 0 => h
  | v + 1 => by
    have := sv_mono (e := e) h v
    simp only [sv]
    split
    · rw [b_or, this]; rfl
    · exact this
theorem sv_add {e : Nat → Int32} {s : Int32} {z y : Nat} (h : bt s z = true) (hy : bt (e z) y = true) : ∀ v, z < v → bt (sv e s v) y = true
  | 0, hv => absurd hv (Nat.not_lt_zero _)
  | v + 1, hv => by
    simp only [sv]
    by_cases hz : z = v
    · subst hz
      rw [if_pos (sv_mono h z), b_or, hy, Bool.or_true]
    · have := sv_add (e := e) h hy v (by omega)
      split
      · rw [b_or, this]; rfl
      · exact this
theorem rn_mono {e : Nat → Int32} {s : Int32} {y : Nat} (h : bt s y = true) : ∀ m, bt (rn e s m) y = true
  | 0 => h
  | m + 1 => sv_mono (rn_mono h m) 10
theorem sv_sound {e r : Nat → Int32} (hG : okG e r) {x : Nat} (hx : x < 10) {s : Int32} (hs : ∀ y, y < 10 → bt s y = true → bt (r x) y = true) : ∀ v, v ≤ 10 → ∀ y, y < 10 → bt (sv e s v) y = true → bt (r x) y = true
  | 0, _, y, hy, h => hs y hy h
  | v + 1, hv, y, hy, h => by
    simp only [sv] at h
    split at h
    · rename_i h1
      rw [b_or, Bool.or_eq_true] at h
      rcases h with h | h
      · exact sv_sound hG hx hs v (by omega) y hy h
      · have h2 := sv_sound hG hx hs v (by omega) v (by omega) h1
        exact hG.1.2 x v y hx (by omega) hy h2 (hG.2.1 v y (by omega) hy h)
    · exact sv_sound hG hx hs v (by omega) y hy h
theorem rn_sound {e r : Nat → Int32} (hG : okG e r) {x : Nat} (hx : x < 10) : ∀ m, ∀ y, y < 10 → bt (rn e (e x) m) y = true → bt (r x) y = true
  | 0, y, hy, h => hG.2.1 x y hx hy h
  | m + 1, y, hy, h => sv_sound hG hx (rn_sound hG hx m) 10 (Nat.le_refl _) y hy h
theorem rn_comp {e r : Nat → Int32} (hG : okG e r) {x : Nat} (hx : x < 10) : ∀ m, ∀ y, y < 10 → bt (r x) y = true → cnt (fun z => bt (r x) z && bt (r z) y) 10 ≤ m → bt (rn e (e x) m) y = true := by
  have step : ∀ y z, y < 10 → z < 10 → bt (r x) z = true → bt (e z) y = true → cnt (fun w => bt (r x) w && bt (r w) z) 10 < cnt (fun w => bt (r x) w && bt (r w) y) 10 := by
    intro y z hy hz h1 h2
    have h3 := hG.2.1 z y hz hy h2
    refine cnt_lt 10 (fun w hw h => ?_) z hz ?_ ?_
    · simp only [Bool.and_eq_true] at h ⊢
      exact ⟨h.1, hG.1.2 w z y hw hz hy h.2 h3⟩
    · simp only [h1, h3]; rfl
    · simp only [hG.1.1 z hz, Bool.and_false]
  intro m
  induction m with
  | zero =>
    intro y hy h hc
    rcases hG.2.2 x y hx hy h with h1 | ⟨z, hz, h1, h2⟩
    · exact h1
    · have := step y z hy hz h1 h2
      omega
  | succ m ih =>
    intro y hy h hc
    rcases hG.2.2 x y hx hy h with h1 | ⟨z, hz, h1, h2⟩
    · exact rn_mono h1 (m + 1)
    · have h3 := step y z hy hz h1 h2
      exact sv_add (ih z hz h1 (by omega)) h2 10 hz
/-- sought anew is as kept up -/
theorem rn_eq {e r : Nat → Int32} (hG : okG e r) {x y : Nat} (hx : x < 10) (hy : y < 10) : bt (rn e (e x) 10) y = bt (r x) y := by
  cases h : bt (r x) y with
  | true => exact rn_comp hG hx 10 y hy h (cnt_le _ 10)
  | false =>
    cases h2 : bt (rn e (e x) 10) y with
    | false => rfl
    | true =>
      rw [rn_sound hG hx 10 y hy h2] at h
      cases h
/-- one more edge -/
def eJ (e : Nat → Int32) (b w : Nat) : Nat → Int32 := upd e b (e b ||| nI 1 <<< (nI w &&& 31))
def rJ (r : Nat → Int32) (b w : Nat) : Nat → Int32 := fun v => if v = b ∨ bt (r v) b = true then r v ||| (nI 1 <<< (nI w &&& 31) ||| r w) else r v
theorem eJ_bt {e : Nat → Int32} {b w x y : Nat} (hw : w < 10) (hy : y < 10) : bt (eJ e b w x) y = (bt (e x) y || (decide (x = b) && decide (y = w))) := by
  unfold eJ
  by_cases h : x = b
  · subst h
    rw [pk_us, b_or, q_sh1 (by omega) (by omega)]
    simp
  · rw [pk_un h]
    simp [h]
theorem rJ_bt {r : Nat → Int32} {b w x y : Nat} (hw : w < 10) (hy : y < 10) : bt (rJ r b w x) y = (bt (r x) y || ((decide (x = b) || bt (r x) b) && (decide (y = w) || bt (r w) y))) := by
  unfold rJ
  by_cases h : x = b ∨ bt (r x) b = true
  · rw [if_pos h, b_or, b_or, q_sh1 (by omega) (by omega)]
    have : (decide (x = b) || bt (r x) b) = true := by simpa using h
    rw [this, Bool.true_and]
  · rw [if_neg h]
    have : (decide (x = b) || bt (r x) b) = false := by
      rw [Bool.eq_false_iff]
      intro q
      exact h (by simpa using q)
    rw [this, Bool.false_and, Bool.or_false]
theorem okG_join {e r : Nat → Int32} (hG : okG e r) {b w : Nat} (hb : b < 10) (hw : w < 10) (hne : b ≠ w) (hno : bt (r w) b = false) : okG (eJ e b w) (rJ r b w) := by
  have hR : ∀ x y, x < 10 → y < 10 → (bt (rJ r b w x) y = true ↔ bt (r x) y = true ∨ ((x = b ∨ bt (r x) b = true) ∧ (y = w ∨ bt (r w) y = true))) := by
    intro x y hx hy
    rw [rJ_bt hw hy]
    simp only [Bool.or_eq_true, Bool.and_eq_true, decide_eq_true_eq]
  have hE : ∀ x y, x < 10 → y < 10 → (bt (eJ e b w x) y = true ↔ bt (e x) y = true ∨ (x = b ∧ y = w)) := by
    intro x y hx hy
    rw [eJ_bt hw hy]
    simp only [Bool.or_eq_true, Bool.and_eq_true, decide_eq_true_eq]
  obtain ⟨⟨hi, ht⟩, hs, hl⟩ := hG
  have hno' : ¬ bt (r w) b = true := by rw [hno]; decide
  refine ⟨⟨fun x hx => ?_, fun x y z hx hy hz h1 h2 => ?_⟩, fun x y hx hy h => ?_, fun x y hx hy h => ?_⟩
  · cases hc : bt (rJ r b w x) x with
    | false => rfl
    | true =>
      exfalso
      rcases (hR x x hx hx).mp hc with h | ⟨h1, h2⟩
      · rw [hi x hx] at h; cases h
      · rcases h1 with rfl | h1
        · rcases h2 with rfl | h2
          · exact hne rfl
          · exact hno' h2
        · rcases h2 with rfl | h2
          · exact hno' h1
          · exact hno' (ht w x b hw hx hb h2 h1)
  · rw [hR x y hx hy] at h1
    rw [hR y z hy hz] at h2
    rw [hR x z hx hz]
    rcases h1 with h1 | ⟨a1, a2⟩
    · rcases h2 with h2 | ⟨c1, c2⟩
      · exact Or.inl (ht x y z hx hy hz h1 h2)
      · refine Or.inr ⟨?_, c2⟩
        rcases c1 with rfl | c1
        · exact Or.inr h1
        · exact Or.inr (ht x y b hx hy hb h1 c1)
    · rcases h2 with h2 | ⟨c1, c2⟩
      · refine Or.inr ⟨a1, ?_⟩
        rcases a2 with rfl | a2
        · exact Or.inr h2
        · exact Or.inr (ht w y z hw hy hz a2 h2)
      · exact Or.inr ⟨a1, c2⟩
  · rw [hE x y hx hy] at h
    rw [hR x y hx hy]
    rcases h with h | ⟨rfl, rfl⟩
    · exact Or.inl (hs x y hx hy h)
    · exact Or.inr ⟨Or.inl rfl, Or.inl rfl⟩
  · rw [hR x y hx hy] at h
    have mE : ∀ a c, a < 10 → c < 10 → bt (e a) c = true → bt (eJ e b w a) c = true := fun a c ha hc q => (hE a c ha hc).mpr (Or.inl q)
    have mR : ∀ a c, a < 10 → c < 10 → bt (r a) c = true → bt (rJ r b w a) c = true := fun a c ha hc q => (hR a c ha hc).mpr (Or.inl q)
    rcases h with h | ⟨a1, a2⟩
    · rcases hl x y hx hy h with h1 | ⟨z, hz, h1, h2⟩
      · exact Or.inl (mE x y hx hy h1)
      · exact Or.inr ⟨z, hz, mR x z hx hz h1, mE z y hz hy h2⟩
    · rcases a2 with rfl | a2
      · rcases a1 with rfl | a1
        · exact Or.inl ((hE _ _ hb hw).mpr (Or.inr ⟨rfl, rfl⟩))
        · exact Or.inr ⟨b, hb, mR x b hx hb a1, (hE _ _ hb hw).mpr (Or.inr ⟨rfl, rfl⟩)⟩
      · rcases hl w y hw hy a2 with h1 | ⟨z, hz, h1, h2⟩
        · exact Or.inr ⟨w, hw, (hR x w hx hw).mpr (Or.inr ⟨a1, Or.inl rfl⟩), mE w y hw hy h1⟩
        · exact Or.inr ⟨z, hz, (hR x z hx hz).mpr (Or.inr ⟨a1, Or.inr h1⟩), mE z y hz hy h2⟩
theorem okG_0 : okG (fun _ => nI 0) (fun _ => nI 0) := by
  refine ⟨⟨fun x hx => q_0 x, fun x y z _ _ _ h _ => ?_⟩, fun x y _ _ h => ?_, fun x y _ _ h => ?_⟩ <;> (rw [q_0] at h; cases h)
end
section
/-! Levels. P: who passes; B u v: u beats v; among the numbers below n. -/
def mx (f : Nat → Nat) : Nat → Nat
  | 0 => 0
  | n + 1 => max (mx f n) (f n)
theorem mx_le {f : Nat → Nat} {m : Nat} : ∀ n, mx f n ≤ m ↔ ∀ u, u < n → f u ≤ m
  | 0 => ⟨fun _ u hu => absurd hu (Nat.not_lt_zero _), fun _ => Nat.zero_le _⟩
  | n + 1 => by
    simp only [mx]
    have ih := mx_le (f := f) (m := m) n
    constructor
    · intro h u hu
      by_cases hun : u = n
      · subst hun; omega
      · exact ih.mp (by omega) u (by omega)
    · intro h
      have h1 := ih.mpr (fun u hu => h u (by omega))
      have h2 := h n (by omega)
      omega
theorem mx_congr {f g : Nat → Nat} : ∀ n, (∀ u, u < n → f u = g u) → mx f n = mx g n
  | 0, _ => rfl
  | n + 1, h => by
    simp only [mx]
    rw [mx_congr n (fun u hu => h u (by omega)), h n (by omega)]
def lzk (P : Nat → Bool) (B : Nat → Nat → Bool) (n : Nat) : Nat → Nat → Nat
  | 0, _ => 1
  | k + 1, v => 1 + mx (fun u => if P u = true ∧ B u v = true then lzk P B n k u else 0) n
def lz (P : Nat → Bool) (B : Nat → Nat → Bool) (n v : Nat) : Nat := lzk P B n n v
def okB (P : Nat → Bool) (B : Nat → Nat → Bool) (n : Nat) : Prop := (∀ u, u < n → P u = true → B u u = false) ∧ ∀ u v w, u < n → v < n → w < n → P u = true → P v = true → P w = true → B u v = true → B v w = true → B u w = true
section LV
variable {P : Nat → Bool} {B : Nat → Nat → Bool} {n : Nat}
theorem lz_pre (h : okB P B n) {u v : Nat} (hu : u < n) (hv : v < n) (pu : P u = true) (pv : P v = true) (hb : B u v = true) : cnt (fun w => P w && B w u) n < cnt (fun w => P w && B w v) n := by
  refine cnt_lt n (fun w hw q => ?_) u hu ?_ ?_
  · simp only [Bool.and_eq_true] at q ⊢
    exact ⟨q.1, h.2 w u v hw hu hv q.1 pu pv q.2 hb⟩
  · simp [pu, hb]
  · simp [h.1 u hu pu]
theorem lzk_st (h : okB P B n) : ∀ k v, v < n → P v = true → cnt (fun w => P w && B w v) n ≤ k → lzk P B n (k + 1) v = lzk P B n k v := by
  intro k
  induction k with
  | zero =>
    intro v hv pv hc
    show 1 + mx _ n = 1
    have : mx (fun u => if P u = true ∧ B u v = true then lzk P B n 0 u else 0) n ≤ 0 := by
      refine (mx_le n).mpr fun u hu => ?_
      split
      · rename_i q
        have h2 := cnt_lt (f := fun _ => false) (g := fun w => P w && B w v) n (fun i _ q => by cases q) u hu (by simp [q.1, q.2]) rfl
        omega
      · exact Nat.le_refl _
    rw [Nat.le_zero.mp this]
  | succ k ih =>
    intro v hv pv hc
    show 1 + mx _ n = 1 + mx _ n
    congr 1
    refine mx_congr n fun u hu => ?_
    by_cases q : P u = true ∧ B u v = true
    · rw [if_pos q, if_pos q]
      have := lz_pre h hu hv q.1 pv q.2
      exact ih u hu q.1 (by omega)
    · rw [if_neg q, if_neg q]
theorem lz_fix (h : okB P B n) {v : Nat} (hv : v < n) (pv : P v = true) : lz P B n v = 1 + mx (fun u => if P u = true ∧ B u v = true then lz P B n u else 0) n := by
  have := lzk_st h n v hv pv (cnt_le _ n)
  exact this.symm
/-- a level is at most m + 1 just if those that beat are at most m -/
theorem lz_iff (h : okB P B n) {v m : Nat} (hv : v < n) (pv : P v = true) : lz P B n v ≤ m + 1 ↔ ∀ u, u < n → P u = true → B u v = true → lz P B n u ≤ m := by
  rw [lz_fix h hv pv]
  have e := mx_le (f := fun u => if P u = true ∧ B u v = true then lz P B n u else 0) (m := m) n
  constructor
  · intro q u hu pu hb
    have := e.mp (by omega) u hu
    simpa [pu, hb] using this
  · intro q
    have := e.mpr (fun u hu => by
      by_cases q2 : P u = true ∧ B u v = true
      · simp only [q2]; exact q u hu q2.1 q2.2
      · rw [if_neg q2]; exact Nat.zero_le _)
    omega
theorem lz_pos (h : okB P B n) {v : Nat} (hv : v < n) (pv : P v = true) : 1 ≤ lz P B n v := by
  rw [lz_fix h hv pv]; omega
theorem lz_lt (h : okB P B n) {u v : Nat} (hu : u < n) (hv : v < n) (pu : P u = true) (pv : P v = true) (hb : B u v = true) : lz P B n u < lz P B n v := by
  have h1 := lz_pos h hv pv
  have h2 := (lz_iff h (m := lz P B n v - 1) hv pv).mp (by omega) u hu pu hb
  omega
theorem lzk_le (h : okB P B n) : ∀ k v, v < n → P v = true → lzk P B n k v ≤ 1 + cnt (fun w => P w && B w v) n := by
  intro k
  induction k with
  | zero => intro v _ _; show 1 ≤ _; omega
  | succ k ih =>
    intro v hv pv
    show 1 + mx _ n ≤ _
    have := (mx_le (f := fun u => if P u = true ∧ B u v = true then lzk P B n k u else 0) (m := cnt (fun w => P w && B w v) n) n).mpr (fun u hu => by
      by_cases q : P u = true ∧ B u v = true
      · simp only [q]
        have h1 := ih u hu q.1
        have h2 := lz_pre h hu hv q.1 pv q.2
        simp only [and_self, if_true]
        omega
      · rw [if_neg q]; exact Nat.zero_le _)
    omega
theorem lz_le (h : okB P B n) {v : Nat} (hv : v < n) (pv : P v = true) : lz P B n v ≤ cnt P n := by
  have h1 := lzk_le h n v hv pv
  have h2 := cnt_lt (f := fun w => P w && B w v) (g := P) n (fun i _ q => by simp only [Bool.and_eq_true] at q; exact q.1) v hv pv (by simp [h.1 v hv pv])
  show lzk P B n n v ≤ _
  omega
/-- there is one right below, if the level is not 1 -/
theorem lz_below (h : okB P B n) {v m : Nat} (hv : v < n) (pv : P v = true) (hm : lz P B n v = m + 2) : ∃ u, u < n ∧ P u = true ∧ B u v = true ∧ lz P B n u = m + 1 := by
  have h1 : ¬ lz P B n v ≤ m + 1 := by omega
  rw [lz_iff h hv pv] at h1
  simp only [Classical.not_forall] at h1
  obtain ⟨u, hu, pu, hb, hx⟩ := h1
  have := lz_lt h hu hv pu pv hb
  exact ⟨u, hu, pu, hb, by omega⟩
/-- what no beating pair breaks is at least the level -/
theorem lz_low (h : okB P B n) {f : Nat → Nat} (h1 : ∀ v, v < n → P v = true → 1 ≤ f v) (h2 : ∀ u v, u < n → v < n → P u = true → P v = true → B u v = true → f u < f v) : ∀ v, v < n → P v = true → lz P B n v ≤ f v := by
  have : ∀ k v, v < n → P v = true → lzk P B n k v ≤ f v := by
    intro k
    induction k with
    | zero => intro v hv pv; exact h1 v hv pv
    | succ k ih =>
      intro v hv pv
      show 1 + mx _ n ≤ _
      have h3 := h1 v hv pv
      have := (mx_le (f := fun u => if P u = true ∧ B u v = true then lzk P B n k u else 0) (m := f v - 1) n).mpr (fun u hu => by
        by_cases q : P u = true ∧ B u v = true
        · simp only [q]
          have g1 := ih u hu q.1
          have g2 := h2 u v hu hv q.1 pv q.2
          simp only [and_self, if_true]
          omega
        · rw [if_neg q]; exact Nat.zero_le _)
      omega
  exact fun v hv pv => this n v hv pv
end LV
end
section
/-! Numbers told one by one, rising: the first c of f are those below R of the kind S. -/
def en (c : Nat) (f : Nat → Nat) (S : Nat → Bool) (R : Nat) : Prop := (∀ i j, i < j → j < c → f i < f j) ∧ (∀ i, i < c → f i < R ∧ S (f i) = true) ∧ ∀ r, r < R → S r = true → ∃ i, i < c ∧ f i = r
theorem cnt_step (S : Nat → Bool) (n : Nat) : cnt S (n + 1) = cnt S n + (if S n = true then 1 else 0) := rfl
theorem cnt_up {S : Nat → Bool} {m n : Nat} (h : m ≤ n) : cnt S m ≤ cnt S n := by
  induction n with
  | zero => rw [Nat.le_zero.mp h]; exact Nat.le_refl _
  | succ n ih =>
    rw [cnt_step]
    by_cases e : m = n + 1
    · subst e; rw [cnt_step]; exact Nat.le_refl _
    · have := ih (by omega)
      omega
theorem cnt_in {S : Nat → Bool} {m n : Nat} (h : m < n) (hs : S m = true) : cnt S m < cnt S n := by
  have h1 : cnt S (m + 1) ≤ cnt S n := cnt_up h
  rw [cnt_step, if_pos hs] at h1
  omega
/-- nothing between: the count stays -/
theorem cnt_flat {S : Nat → Bool} {m n : Nat} (h : m ≤ n) (hs : ∀ r, m ≤ r → r < n → S r = false) : cnt S n = cnt S m := by
  induction n with
  | zero => rw [Nat.le_zero.mp h]
  | succ n ih =>
    by_cases e : m = n + 1
    · rw [e]
    · rw [cnt_step, hs n (by omega) (by omega), ih (by omega) (fun r h1 h2 => hs r h1 (by omega))]
      rfl
theorem en_cnt {c : Nat} {f : Nat → Nat} {S : Nat → Bool} {R : Nat} (h : en c f S R) : ∀ i, i < c → cnt S (f i) = i := by
  obtain ⟨h1, h2, h3⟩ := h
  intro i
  induction i with
  | zero =>
    intro hi
    have := cnt_flat (S := S) (m := 0) (n := f 0) (Nat.zero_le _) (fun r _ hr => by
      cases hs : S r with
      | false => rfl
      | true =>
        obtain ⟨j, hj, e⟩ := h3 r (by have := (h2 0 hi).1; omega) hs
        by_cases hj0 : j = 0
        · subst hj0; omega
        · have := h1 0 j (by omega) hj
          omega)
    rw [this]; rfl
  | succ i ih =>
    intro hi
    have a := ih (by omega)
    have b := h1 i (i + 1) (by omega) hi
    have e1 : cnt S (f i + 1) = i + 1 := by rw [cnt_step, if_pos (h2 i (by omega)).2, a]
    refine Eq.trans ?_ e1
    refine cnt_flat (by omega) (fun r g1 g2 => ?_)
    cases hs : S r with
    | false => rfl
    | true =>
      obtain ⟨j, hj, e⟩ := h3 r (by have := (h2 (i + 1) hi).1; omega) hs
      rcases Nat.lt_trichotomy j i with q | q | q
      · have := h1 j i q (by omega); omega
      · subst q; omega
      · by_cases q2 : j = i + 1
        · subst q2; omega
        · have := h1 (i + 1) j (by omega) hj; omega
theorem en_total {c : Nat} {f : Nat → Nat} {S : Nat → Bool} {R : Nat} (h : en c f S R) : cnt S R = c := by
  obtain ⟨h1, h2, h3⟩ := h
  by_cases hc : c = 0
  · subst hc
    have := cnt_flat (S := S) (m := 0) (n := R) (Nat.zero_le _) (fun r _ hr => by
      cases hs : S r with
      | false => rfl
      | true => obtain ⟨j, hj, _⟩ := h3 r hr hs; omega)
    rw [this]; rfl
  · have a := en_cnt ⟨h1, h2, h3⟩ (c - 1) (by omega)
    have b := h2 (c - 1) (by omega)
    have e1 : cnt S (f (c - 1) + 1) = c := by rw [cnt_step, if_pos b.2, a]; omega
    refine Eq.trans ?_ e1
    refine cnt_flat (by omega) (fun r g1 g2 => ?_)
    cases hs : S r with
    | false => rfl
    | true =>
      obtain ⟨j, hj, e⟩ := h3 r g2 hs
      by_cases q : j = c - 1
      · subst q; omega
      · have := h1 j (c - 1) (by omega) (by omega); omega
/-- there is but one such row of numbers -/
theorem en_uniq {c c' : Nat} {f f' : Nat → Nat} {S : Nat → Bool} {R : Nat} (h : en c f S R) (h' : en c' f' S R) : c = c' ∧ ∀ i, i < c → f i = f' i := by
  have e : c = c' := (en_total h).symm.trans (en_total h')
  subst e
  refine ⟨rfl, fun i hi => ?_⟩
  have a := en_cnt h i hi
  have b := en_cnt h' i hi
  rcases Nat.lt_trichotomy (f i) (f' i) with q | q | q
  · have := cnt_in q (h.2.1 i hi).2; omega
  · exact q
  · have := cnt_in q (h'.2.1 i hi).2; omega
/-- one more number at the end -/
theorem en_push {c : Nat} {f : Nat → Nat} {S : Nat → Bool} {R : Nat} (h : en c f S R) (hs : S R = true) {f' : Nat → Nat} (hf : ∀ i, i < c → f' i = f i) (hc : f' c = R) : en (c + 1) f' S (R + 1) := by
  obtain ⟨h1, h2, h3⟩ := h
  refine ⟨fun i j hij hj => ?_, fun i hi => ?_, fun r hr hsr => ?_⟩
  · by_cases q : j = c
    · subst q
      rw [hc, hf i hij]
      exact (h2 i hij).1
    · rw [hf i (by omega), hf j (by omega)]
      exact h1 i j hij (by omega)
  · by_cases q : i = c
    · subst q
      rw [hc]
      exact ⟨by omega, hs⟩
    · rw [hf i (by omega)]
      have := h2 i (by omega)
      exact ⟨by omega, this.2⟩
  · by_cases q : r = R
    · exact ⟨c, by omega, hc.trans q.symm⟩
    · obtain ⟨i, hi, e⟩ := h3 r (by omega) hsr
      exact ⟨i, by omega, (hf i hi).trans e⟩
theorem en_skip {c : Nat} {f : Nat → Nat} {S : Nat → Bool} {R : Nat} (h : en c f S R) (hs : S R = false) : en c f S (R + 1) := by
  obtain ⟨h1, h2, h3⟩ := h
  refine ⟨h1, fun i hi => ⟨by have := (h2 i hi).1; omega, (h2 i hi).2⟩, fun r hr hsr => ?_⟩
  by_cases q : r = R
  · subst q; rw [hs] at hsr; cases hsr
  · exact h3 r (by omega) hsr
theorem en_0 {f : Nat → Nat} {S : Nat → Bool} : en 0 f S 0 := ⟨fun i j _ hj => absurd hj (Nat.not_lt_zero _), fun i hi => absurd hi (Nat.not_lt_zero _), fun r hr => absurd hr (Nat.not_lt_zero _)⟩
theorem en_congr {c : Nat} {f f' : Nat → Nat} {S S' : Nat → Bool} {R : Nat} (h : en c f S R) (hf : ∀ i, i < c → f' i = f i) (hS : ∀ r, r < R → S' r = S r) : en c f' S' R := by
  obtain ⟨h1, h2, h3⟩ := h
  refine ⟨fun i j hij hj => by rw [hf i (by omega), hf j hj]; exact h1 i j hij hj, fun i hi => ?_, fun r hr hs => ?_⟩
  · have := h2 i hi
    rw [hf i hi, hS _ this.1]
    exact this
  · rw [hS r hr] at hs
    obtain ⟨i, hi, e⟩ := h3 r hr hs
    exact ⟨i, hi, (hf i hi).trans e⟩
/-- out of rising numbers those of a kind -/
theorem en_inj {c : Nat} {f : Nat → Nat} {S : Nat → Bool} {R : Nat} (h : en c f S R) {i j : Nat} (hi : i < c) (hj : j < c) (e : f i = f j) : i = j := by
  rcases Nat.lt_trichotomy i j with q | q | q
  · have := h.1 i j q hj; omega
  · exact q
  · have := h.1 j i q hi; omega
end
section
/-! Forms. T: kinds, columns, a, b of what the reference has made. -/
abbrev mdt : Type := (Nat → Int32) × (Nat → Int32) × (Nat → Int32) × (Nat → Int32)
abbrev tK (T : mdt) : Nat → Int32 := T.1
abbrev tC (T : mdt) : Nat → Int32 := T.2.1
abbrev tA (T : mdt) : Nat → Int32 := T.2.2.1
abbrev tB (T : mdt) : Nat → Int32 := T.2.2.2
def fm (T : mdt) (i : Nat) : List Int32 :=
  if tK T i = nI 9 then (if _h : (tA T i).toNatClampNeg < i then nI 9 :: fm T (tA T i).toNatClampNeg else [])
  else if nI 5 < tK T i then (if _h : (tA T i).toNatClampNeg < i ∧ (tB T i).toNatClampNeg < i then tK T i :: (fm T (tA T i).toNatClampNeg ++ fm T (tB T i).toNatClampNeg) else [])
  else tK T i :: tC T i :: (if tK T i = nI 3 then [tA T i, tB T i] else if nI 1 < tK T i then [tA T i] else [])
termination_by i
decreasing_by all_goals omega
theorem fm_9 {T : mdt} {i a : Nat} (hk : tK T i = nI 9) (ha : tA T i = nI a) (hl : a < i) (hi : i < 65536) : fm T i = nI 9 :: fm T a := by
  have e : (tA T i).toNatClampNeg = a := by rw [ha, nI_clamp (by omega)]
  rw [fm, if_pos hk, e, dif_pos hl]
theorem fm_t {T : mdt} {i a b : Nat} (h9 : ¬ tK T i = nI 9) (hk : nI 5 < tK T i) (ha : tA T i = nI a) (hb : tB T i = nI b) (hl : a < i) (hl2 : b < i) (hi : i < 65536) : fm T i = tK T i :: (fm T a ++ fm T b) := by
  have e : (tA T i).toNatClampNeg = a := by rw [ha, nI_clamp (by omega)]
  have e2 : (tB T i).toNatClampNeg = b := by rw [hb, nI_clamp (by omega)]
  rw [fm, if_neg h9, if_pos hk, e, e2, dif_pos ⟨hl, hl2⟩]
theorem fm_o {T : mdt} {i : Nat} (h9 : ¬ tK T i = nI 9) (hk : ¬ nI 5 < tK T i) : fm T i = tK T i :: tC T i :: (if tK T i = nI 3 then [tA T i, tB T i] else if nI 1 < tK T i then [tA T i] else []) := by
  rw [fm, if_neg h9, if_neg hk]
/-- rows that are as they are made -/
def okE (T : mdt) (i : Nat) : Prop :=
  (tK T i = nI 9 ∧ tC T i = -1 ∧ ∃ a, a < i ∧ tA T i = nI a ∧ tB T i = nI a) ∨
  (¬ tK T i = nI 9 ∧ nI 5 < tK T i ∧ tC T i = -1 ∧ ∃ a b, a < i ∧ b < i ∧ tA T i = nI a ∧ tB T i = nI b) ∨
  (¬ tK T i = nI 9 ∧ ¬ nI 5 < tK T i ∧ (¬ tK T i = nI 3 → tB T i = nI 0) ∧ (¬ nI 1 < tK T i → tA T i = nI 0))
def okM (T : mdt) (m : Nat) : Prop := m ≤ 100 ∧ (∀ i, i < m → okE T i) ∧ ∀ i j, i < m → j < m → tK T i = tK T j → tC T i = tC T j → tA T i = tA T j → tB T i = tB T j → i = j
theorem fm_head {T : mdt} {i : Nat} (h : okE T i) (hi : i < 65536) : ∃ t, fm T i = tK T i :: t := by
  rcases h with ⟨h1, _, a, ha, e1, _⟩ | ⟨h1, h2, _, a, b, ha, hb, e1, e2⟩ | ⟨h1, h2, _, _⟩
  · exact ⟨_, by rw [fm_9 h1 e1 ha hi, h1]⟩
  · exact ⟨_, fm_t h1 h2 e1 e2 ha hb hi⟩
  · exact ⟨_, fm_o h1 h2⟩
def sk : Nat → List Int32 → Option (List Int32)
  | 0, _ => none
  | _ + 1, [] => none
  | f + 1, x :: t => if x = nI 9 then sk f t else if nI 5 < x then (sk f t).bind (sk f) else if x = nI 3 then some (t.drop 3) else if nI 1 < x then some (t.drop 2) else some (t.drop 1)
theorem sk_fm {T : mdt} {m : Nat} (hM : okM T m) : ∀ i, i < m → ∀ f, i < f → ∀ t, sk f (fm T i ++ t) = some t := by
  have hm := hM.1
  intro i
  induction i using Nat.strongRecOn with
  | _ i ih =>
    intro hi f hf t
    obtain ⟨f, rfl⟩ : ∃ g, f = g + 1 := ⟨f - 1, by omega⟩
    rcases hM.2.1 i hi with ⟨h1, _, a, ha, e1, _⟩ | ⟨h1, h2, _, a, b, ha, hb, e1, e2⟩ | ⟨h1, h2, _, _⟩
    · rw [fm_9 h1 e1 ha (by omega), List.cons_append]
      simp only [sk, if_true]
      exact ih a ha (by omega) f (by omega) t
    · rw [fm_t h1 h2 e1 e2 ha hb (by omega), List.cons_append, List.append_assoc]
      simp only [sk, if_neg h1, if_pos h2]
      rw [ih a ha (by omega) f (by omega) _, Option.bind_some]
      exact ih b hb (by omega) f (by omega) t
    · rw [fm_o h1 h2, List.cons_append]
      simp only [sk, if_neg h1, if_neg h2]
      by_cases h3 : tK T i = nI 3
      · simp [h3]
      · rw [if_neg h3, if_neg h3]
        by_cases h4 : nI 1 < tK T i
        · simp [h4]
        · simp [h4]
theorem fm_inj {T : mdt} {m : Nat} (hM : okM T m) : ∀ i, i < m → ∀ j, j < m → fm T i = fm T j → i = j := by
  have hm := hM.1
  intro i
  induction i using Nat.strongRecOn with
  | _ i ih =>
    intro hi j hj h
    obtain ⟨ti, hti⟩ := fm_head (hM.2.1 i hi) (by omega)
    obtain ⟨tj, htj⟩ := fm_head (hM.2.1 j hj) (by omega)
    have hk : tK T i = tK T j := by rw [hti, htj] at h; exact (List.cons.inj h).1
    rcases hM.2.1 i hi with ⟨h1, c1, a, ha, e1, e1'⟩ | ⟨h1, h2, c1, a, b, ha, hb, e1, e2⟩ | ⟨h1, h2, c1, c2⟩
    · rcases hM.2.1 j hj with ⟨g1, d1, a', ha', f1, f1'⟩ | ⟨g1, _⟩ | ⟨g1, _⟩
      · rw [fm_9 h1 e1 ha (by omega), fm_9 g1 f1 ha' (by omega)] at h
        have := ih a ha (by omega) a' (by omega) (List.cons.inj h).2
        subst this
        exact hM.2.2 i j hi hj hk (c1.trans d1.symm) (e1.trans f1.symm) (e1'.trans f1'.symm)
      · exact absurd (hk.symm.trans h1) g1
      · exact absurd (hk.symm.trans h1) g1
    · rcases hM.2.1 j hj with ⟨g1, _⟩ | ⟨g1, g2, d1, a', b', ha', hb', f1, f2⟩ | ⟨g1, g2, _⟩
      · exact absurd (hk.trans g1) h1
      · rw [fm_t h1 h2 e1 e2 ha hb (by omega), fm_t g1 g2 f1 f2 ha' hb' (by omega)] at h
        have h3 := (List.cons.inj h).2
        have s1 := sk_fm hM a (by omega) 200 (by omega) (fm T b)
        have s2 := sk_fm hM a' (by omega) 200 (by omega) (fm T b')
        rw [h3] at s1
        have h4 : fm T b = fm T b' := Option.some.inj (s1.symm.trans s2)
        rw [h4] at h3
        have h5 : fm T a = fm T a' := List.append_cancel_right h3
        have q1 := ih a ha (by omega) a' (by omega) h5
        have q2 := ih b hb (by omega) b' (by omega) h4
        subst q1; subst q2
        exact hM.2.2 i j hi hj hk (c1.trans d1.symm) (e1.trans f1.symm) (e2.trans f2.symm)
      · exact absurd (hk ▸ h2) g2
    · rcases hM.2.1 j hj with ⟨g1, _⟩ | ⟨g1, g2, _⟩ | ⟨g1, g2, d1, d2⟩
      · exact absurd (hk.trans g1) h1
      · exact absurd (hk ▸ g2) h2
      · rw [fm_o h1 h2, fm_o g1 g2] at h
        have h3 := (List.cons.inj h).2
        have hc := (List.cons.inj h3).1
        have h4 := (List.cons.inj h3).2
        refine hM.2.2 i j hi hj hk hc ?_ ?_
        · by_cases q : tK T i = nI 3
          · rw [if_pos q, if_pos (hk ▸ q)] at h4
            exact (List.cons.inj h4).1
          · rw [if_neg q, if_neg (fun z => q (hk.trans z))] at h4
            by_cases q1 : nI 1 < tK T i
            · rw [if_pos q1, if_pos (hk ▸ q1)] at h4
              exact (List.cons.inj h4).1
            · rw [c2 q1, d2 (fun z => q1 (hk ▸ z))]
        · by_cases q : tK T i = nI 3
          · rw [if_pos q, if_pos (hk ▸ q)] at h4
            exact (List.cons.inj (List.cons.inj h4).2).1
          · rw [c1 q, d1 (fun z => q (hk.trans z))]
/-- earlier rows stay as they are: so do their forms -/
theorem fm_keep {T T' : mdt} {m : Nat} (hM : okM T m) (h : ∀ i, i < m → tK T' i = tK T i ∧ tC T' i = tC T i ∧ tA T' i = tA T i ∧ tB T' i = tB T i) : ∀ i, i < m → fm T' i = fm T i := by
  have hm := hM.1
  intro i
  induction i using Nat.strongRecOn with
  | _ i ih =>
    intro hi
    obtain ⟨k1, k2, k3, k4⟩ := h i hi
    rcases hM.2.1 i hi with ⟨h1, _, a, ha, e1, _⟩ | ⟨h1, h2, _, a, b, ha, hb, e1, e2⟩ | ⟨h1, h2, _, _⟩
    · rw [fm_9 h1 e1 ha (by omega), fm_9 (k1.trans h1) (k3.trans e1) ha (by omega), ih a ha (by omega)]
    · rw [fm_t h1 h2 e1 e2 ha hb (by omega), fm_t (T := T') (by rw [k1]; exact h1) (by rw [k1]; exact h2) (k3.trans e1) (k4.trans e2) ha hb (by omega), ih a ha (by omega), ih b hb (by omega), k1]
    · rw [fm_o h1 h2, fm_o (T := T') (by rw [k1]; exact h1) (by rw [k1]; exact h2), k1, k2, k3, k4]
/-- the reduced form of a node -/
def rd : List Int32 → List Int32
  | [] => [nI 9]
  | x :: t => if x = nI 9 then t else if x = nI 0 then nI 1 :: t else if x = nI 1 then nI 0 :: t else nI 9 :: x :: t
def rt (k : Nat) (cp cq : Int32) (p q : List Int32) : List Int32 :=
  if k = 9 then rd p else if p = q ∨ (k = 7 ∧ cq &&& (cp ^^^ (-1)) = nI 0) then p
  else if k ≠ 7 ∧ p.head? = some (nI 9) ∧ q.head? = some (nI 9) then nI 9 :: nI k :: (p.tail ++ q.tail) else nI k :: (p ++ q)
def ro (N : nod) (n : Nat) : List Int32 := nI (nK N n) :: nI (nC N n) :: (if nK N n < 2 then [] else if nK N n = 2 then [nA N n] else if nK N n = 3 then [nA N n, nB N n] else [nI n])
def rf (N : nod) (cols : Nat → Int32) (n : Nat) : List Int32 :=
  if nK N n < 6 then ro N n else if _h : nL N n < n ∧ nQ N n < n then rt (nK N n) (cols (nL N n)) (cols (nQ N n)) (rf N cols (nL N n)) (rf N cols (nQ N n)) else []
termination_by n
decreasing_by all_goals omega
theorem rf_o {N : nod} {cols : Nat → Int32} {n : Nat} (h : nK N n < 6) : rf N cols n = ro N n := by rw [rf, if_pos h]
theorem rf_t {N : nod} {cols : Nat → Int32} {n : Nat} (h : ¬ nK N n < 6) (hc : nL N n < n ∧ nQ N n < n) : rf N cols n = rt (nK N n) (cols (nL N n)) (cols (nQ N n)) (rf N cols (nL N n)) (rf N cols (nQ N n)) := by rw [rf, if_neg h, dif_pos hc]
end
section
/-! Classes, fields and array types of the claim (written by gen_lean.py out of the Statement). -/
def T_PT : u_T := fun k => match k with
  | 0 => ("PreferTable", "rows", "LPreferTable$Rows;", true)
  | 1 => ("PreferTable", "nodes", "[LPreferTable$Node;", true)
  | 2 => ("PreferTable", "nodeCount", "I", false)
  | 3 => ("PreferTable", "conditions", "LPreferTable$Conditions;", true)
  | 4 => ("PreferTable", "contest", "LPreferTable$Contest;", true)
  | 5 => ("PreferTable", "answered", "LPreferTable$RowList;", true)
  | 6 => ("PreferTable", "nobody", "LPreferTable$RowList;", true)
  | 7 => ("PreferTable", "questions", "[LPreferTable$Question;", true)
  | 8 => ("PreferTable", "alterations", "I", false)
  | 9 => ("PreferTable", "formNumbers", "[I", true)
  | 10 => ("PreferTable", "formLength", "I", false)
  | _ => ("", "", "", false)
def ty_PT : Nat → FieldType := fun k => match k with
  | 0 => (.object "PreferTable$Rows")
  | 1 => (.array (.object "PreferTable$Node"))
  | 2 => .int
  | 3 => (.object "PreferTable$Conditions")
  | 4 => (.object "PreferTable$Contest")
  | 5 => (.object "PreferTable$RowList")
  | 6 => (.object "PreferTable$RowList")
  | 7 => (.array (.object "PreferTable$Question"))
  | 8 => .int
  | 9 => (.array .int)
  | 10 => .int
  | _ => .int
def T_Rows : u_T := fun k => match k with
  | 0 => ("PreferTable$Rows", "numbers", "[I", true)
  | 1 => ("PreferTable$Rows", "values", "[[I", true)
  | 2 => ("PreferTable$Rows", "count", "I", false)
  | 3 => ("PreferTable$Rows", "made", "I", false)
  | _ => ("", "", "", false)
def ty_Rows : Nat → FieldType := fun k => match k with
  | 0 => (.array .int)
  | 1 => (.array (.array .int))
  | 2 => .int
  | 3 => .int
  | _ => .int
def T_RowList : u_T := fun k => match k with
  | 0 => ("PreferTable$RowList", "numbers", "[I", true)
  | 1 => ("PreferTable$RowList", "count", "I", false)
  | _ => ("", "", "", false)
def ty_RowList : Nat → FieldType := fun k => match k with
  | 0 => (.array .int)
  | 1 => .int
  | _ => .int
def T_Conditions : u_T := fun k => match k with
  | 0 => ("PreferTable$Conditions", "columns", "[I", true)
  | 1 => ("PreferTable$Conditions", "operations", "[I", true)
  | 2 => ("PreferTable$Conditions", "bounds", "[I", true)
  | 3 => ("PreferTable$Conditions", "count", "I", false)
  | _ => ("", "", "", false)
def ty_Conditions : Nat → FieldType := fun k => match k with
  | 0 => (.array .int)
  | 1 => (.array .int)
  | 2 => (.array .int)
  | 3 => .int
  | _ => .int
def T_Question : u_T := fun k => match k with
  | 0 => ("PreferTable$Question", "node", "LPreferTable$Node;", false)
  | 1 => ("PreferTable$Question", "conditions", "LPreferTable$Conditions;", true)
  | 2 => ("PreferTable$Question", "current", "LPreferTable$RowList;", true)
  | 3 => ("PreferTable$Question", "lastRead", "LPreferTable$RowList;", true)
  | 4 => ("PreferTable$Question", "alterationsSeen", "I", false)
  | _ => ("", "", "", false)
def ty_Question : Nat → FieldType := fun k => match k with
  | 0 => (.object "PreferTable$Node")
  | 1 => (.object "PreferTable$Conditions")
  | 2 => (.object "PreferTable$RowList")
  | 3 => (.object "PreferTable$RowList")
  | 4 => .int
  | _ => .int
def T_Contest : u_T := fun k => match k with
  | 0 => ("PreferTable$Contest", "beaters", "[I", true)
  | 1 => ("PreferTable$Contest", "levels", "[I", true)
  | 2 => ("PreferTable$Contest", "passing", "I", false)
  | _ => ("", "", "", false)
def ty_Contest : Nat → FieldType := fun k => match k with
  | 0 => (.array .int)
  | 1 => (.array .int)
  | 2 => .int
  | _ => .int
def T_ValueOrder : u_T := fun k => match k with
  | 0 => ("PreferTable$ValueOrder", "from", "I", true)
  | 1 => ("PreferTable$ValueOrder", "to", "I", true)
  | 2 => ("PreferTable$Order", "column", "I", true)
  | 3 => ("PreferTable$Node", "kind", "I", true)
  | 4 => ("PreferTable$Node", "number", "I", true)
  | 5 => ("PreferTable$Node", "size", "I", true)
  | 6 => ("PreferTable$Node", "columns", "I", true)
  | _ => ("", "", "", false)
def ty_ValueOrder : Nat → FieldType := fun k => match k with
  | 0 => .int
  | 1 => .int
  | 2 => .int
  | 3 => .int
  | 4 => .int
  | 5 => .int
  | 6 => .int
  | _ => .int
def T_Layers : u_T := fun k => match k with
  | 0 => ("PreferTable$Layers", "layerOf", "[I", true)
  | 1 => ("PreferTable$Order", "column", "I", true)
  | 2 => ("PreferTable$Node", "kind", "I", true)
  | 3 => ("PreferTable$Node", "number", "I", true)
  | 4 => ("PreferTable$Node", "size", "I", true)
  | 5 => ("PreferTable$Node", "columns", "I", true)
  | _ => ("", "", "", false)
def ty_Layers : Nat → FieldType := fun k => match k with
  | 0 => (.array .int)
  | 1 => .int
  | 2 => .int
  | 3 => .int
  | 4 => .int
  | 5 => .int
  | _ => .int
def T_Graph : u_T := fun k => match k with
  | 0 => ("PreferTable$Graph", "edges", "[I", true)
  | 1 => ("PreferTable$Graph", "reached", "[I", true)
  | 2 => ("PreferTable$Order", "column", "I", true)
  | 3 => ("PreferTable$Node", "kind", "I", true)
  | 4 => ("PreferTable$Node", "number", "I", true)
  | 5 => ("PreferTable$Node", "size", "I", true)
  | 6 => ("PreferTable$Node", "columns", "I", true)
  | _ => ("", "", "", false)
def ty_Graph : Nat → FieldType := fun k => match k with
  | 0 => (.array .int)
  | 1 => (.array .int)
  | 2 => .int
  | 3 => .int
  | 4 => .int
  | 5 => .int
  | 6 => .int
  | _ => .int
def T_Term : u_T := fun k => match k with
  | 0 => ("PreferTable$Term", "p", "LPreferTable$Node;", true)
  | 1 => ("PreferTable$Term", "q", "LPreferTable$Node;", true)
  | 2 => ("PreferTable$Node", "kind", "I", true)
  | 3 => ("PreferTable$Node", "number", "I", true)
  | 4 => ("PreferTable$Node", "size", "I", true)
  | 5 => ("PreferTable$Node", "columns", "I", true)
  | _ => ("", "", "", false)
def ty_Term : Nat → FieldType := fun k => match k with
  | 0 => (.object "PreferTable$Node")
  | 1 => (.object "PreferTable$Node")
  | 2 => .int
  | 3 => .int
  | 4 => .int
  | 5 => .int
  | _ => .int
def T_Md : u_T := fun k => match k with
  | 0 => ("PreferTableModel", "thrown", "I", false)
  | 1 => ("PreferTableModel", "rows", "I", false)
  | 2 => ("PreferTableModel", "there", "[Z", true)
  | 3 => ("PreferTableModel", "value", "[I", true)
  | 4 => ("PreferTableModel", "nodes", "I", false)
  | 5 => ("PreferTableModel", "kind", "[I", true)
  | 6 => ("PreferTableModel", "column", "[I", true)
  | 7 => ("PreferTableModel", "left", "[I", true)
  | 8 => ("PreferTableModel", "right", "[I", true)
  | 9 => ("PreferTableModel", "size", "[I", true)
  | 10 => ("PreferTableModel", "layer", "[I", true)
  | 11 => ("PreferTableModel", "edges", "[I", true)
  | 12 => ("PreferTableModel", "says", "[I", true)
  | 13 => ("PreferTableModel", "conditions", "[I", true)
  | 14 => ("PreferTableModel", "on", "[I", true)
  | 15 => ("PreferTableModel", "operation", "[I", true)
  | 16 => ("PreferTableModel", "than", "[I", true)
  | 17 => ("PreferTableModel", "isSaved", "[Z", true)
  | 18 => ("PreferTableModel", "question", "[I", true)
  | 19 => ("PreferTableModel", "seen", "[Z", true)
  | 20 => ("PreferTableModel", "best", "[Z", true)
  | 21 => ("PreferTableModel", "level", "[I", true)
  | 22 => ("PreferTableModel", "answers", "I", false)
  | 23 => ("PreferTableModel", "answer", "[I", true)
  | 24 => ("PreferTableModel", "made", "I", false)
  | 25 => ("PreferTableModel", "madeKind", "[I", true)
  | 26 => ("PreferTableModel", "madeColumn", "[I", true)
  | 27 => ("PreferTableModel", "madeA", "[I", true)
  | 28 => ("PreferTableModel", "madeB", "[I", true)
  | 29 => ("PreferTableModel", "madeOf", "[I", true)
  | 30 => ("PreferTableModel", "become", "[I", true)
  | 31 => ("PreferTableModel", "forms", "I", false)
  | 32 => ("PreferTableModel", "form", "[I", true)
  | 33 => ("PreferTableModel", "wait", "[I", true)
  | _ => ("", "", "", false)
def ty_Md : Nat → FieldType := fun k => match k with
  | 0 => .int
  | 1 => .int
  | 2 => (.array .boolean)
  | 3 => (.array .int)
  | 4 => .int
  | 5 => (.array .int)
  | 6 => (.array .int)
  | 7 => (.array .int)
  | 8 => (.array .int)
  | 9 => (.array .int)
  | 10 => (.array .int)
  | 11 => (.array .int)
  | 12 => (.array .int)
  | 13 => (.array .int)
  | 14 => (.array .int)
  | 15 => (.array .int)
  | 16 => (.array .int)
  | 17 => (.array .boolean)
  | 18 => (.array .int)
  | 19 => (.array .boolean)
  | 20 => (.array .boolean)
  | 21 => (.array .int)
  | 22 => .int
  | 23 => (.array .int)
  | 24 => .int
  | 25 => (.array .int)
  | 26 => (.array .int)
  | 27 => (.array .int)
  | 28 => (.array .int)
  | 29 => (.array .int)
  | 30 => (.array .int)
  | 31 => .int
  | 32 => (.array .int)
  | 33 => (.array .int)
  | _ => .int
def T_exc : u_T := fun _ => ("", "", "", false)
def ev_cl : List vw_C := [("PreferTable", T_PT, 11), ("PreferTable$Rows", T_Rows, 4), ("PreferTable$RowList", T_RowList, 2), ("PreferTable$Conditions", T_Conditions, 4), ("PreferTable$Question", T_Question, 5), ("PreferTable$Contest", T_Contest, 3), ("PreferTable$ValueOrder", T_ValueOrder, 7), ("PreferTable$Layers", T_Layers, 6), ("PreferTable$Graph", T_Graph, 7), ("PreferTable$Term", T_Term, 6), ("PreferTableModel", T_Md, 34), ("java/lang/IllegalStateException", T_exc, 0), ("java/lang/IllegalArgumentException", T_exc, 0), ("java/lang/IndexOutOfBoundsException", T_exc, 0)]
def ev_tys (A : Nat → ClassId) : List (ClassId × FieldType) := [(A 0, .int), (A 1, .boolean), (A 2, .long), (A 3, .object "PreferTable$Node"), (A 4, .object "PreferTable$Question"), (A 5, .array .int)]
def ev_strs : List (String × Nat × String) := [("PreferTable", 73, "no room for another row"), ("PreferTable", 100, "no such row or column"), ("PreferTable", 105, "no such order"), ("PreferTable", 108, "no room for another node"), ("PreferTable", 129, "no such node or value"), ("PreferTable", 259, "a value would be better than itself"), ("PreferTable", 137, "the node has no edges"), ("PreferTable", 139, "no such kind or node"), ("PreferTable", 147, "too many nodes, or too large a term"), ("PreferTable", 152, "no such column or operation"), ("PreferTable", 157, "no room for another condition"), ("PreferTable", 165, "no such node or row"), ("PreferTable", 171, "no such node"), ("PreferTable", 182, "no such node or column"), ("PreferTable", 188, "fewer than no rows"), ("PreferTable", 211, "no such question or node"), ("PreferTable", 237, "no such number in the form")]
def ev_stat : List Cond := [.isRef (.static Bundle.tN "UNASSIGNED_STACK" Bundle.steD), .isRef (.static Bundle.tN "SUPPRESSED_SENTINEL" Bundle.listD), .laysStatic Bundle.tN "UNASSIGNED_STACK" Bundle.steD, .laysStatic Bundle.tN "SUPPRESSED_SENTINEL" Bundle.listD]
end
section
/-! The judgement Ev: one method's frame over a heap that is a function. It hides the machine (program, state, frames, room, words of the tables); its rules are one an instruction. -/
/-- a word that stays true at any later state -/
def ev_gd (w : Cond) : Prop := ∀ (s U : State) (A B : Array Value), s.WarmedH U.vm → w.before A s = true → w.before B U = true
theorem ev_gdT {w : Cond} (h : (w.onTables && w.keeps) = true) : ev_gd w := fun _ _ _ _ hW h1 => word_at hW (Or.inl h) h1
theorem ev_gdA {ty : FieldType} : ev_gd (.arrayClass ty) := fun _ _ _ _ hW h1 => word_at hW (Or.inr ⟨ty, rfl⟩) h1
theorem ev_gdN {a b : String} {i : Nat} {x : MethodName} : ev_gd (.methodLinkNest a i x b) := fun _ _ _ _ hW h1 => va_Nw.use rfl (va_Nw.warmM hW (va_Nw.of rfl h1))
theorem ev_gdD {x : MethodName} : ev_gd (.declares x) := fun _ _ _ _ hW h1 => va_Nw.use rfl (va_Nw.warmD hW (va_Nw.of rfl h1))
theorem ev_gdC {a b : String} : ev_gd (.castable a b) := fun _ _ _ _ hW h1 => va_Nw.use rfl (va_Nw.warmC hW (va_Nw.of rfl h1))
theorem ev_gdL {C : String} {T : u_T} {k : Nat} : ev_gd (u_lay C T k) := by
  unfold u_lay
  split
  · exact ev_gdT rfl
  · exact ev_gdT rfl
abbrev ev_h : Type := Nat → Option va_E
/-- outcome, heap behind it, its size, cells and slots left -/
abbrev ev_Q : Type := Outcome → ev_h → Nat → Nat → Nat → Prop
/-- launch; class ids and slots; array classes; the state and the arguments at the law's entry -/
abbrev ev_E : Type := Launch × va_G × (Nat → ClassId) × State × Array Value
abbrev ev_b (E : ev_E) : Nat := E.2.2.2.1.heap.size
/-- arrays of ints, booleans, longs, references -/
abbrev iA (E : ev_E) (N : Nat) (f : Nat → Int32) : va_E := .inl (E.2.2.1 0, N, .inl f)
abbrev zA (E : ev_E) (N : Nat) (f : Nat → Int32) : va_E := .inl (E.2.2.1 1, N, .inl f)
abbrev lA (E : ev_E) (N : Nat) (f : Nat → Int64) : va_E := .inl (E.2.2.1 2, N, .inr (.inl f))
abbrev rA (E : ev_E) (t N : Nat) (f : Nat → Option Nat) : va_E := .inl (E.2.2.1 t, N, .inr (.inr (.inr (.inr f))))
/-- an object of the class number ci -/
abbrev oB (ci : Nat) (fs : List Value) : va_E := .inr (ci, fs)
/-- cells a .. a + N - 1 -/
def ev_upr (h : ev_h) (a N : Nat) (x : va_E) : ev_h := fun q => if a ≤ q ∧ q < a + N then some x else h q
def ev_up (h : ev_h) (a : Nat) (x : va_E) : ev_h := fun q => if q = a then some x else h q
theorem ev_up_s {h : ev_h} {a : Nat} {x : va_E} : ev_up h a x a = some x := if_pos rfl
theorem ev_up_n {h : ev_h} {a q : Nat} {x : va_E} (hq : q ≠ a) : ev_up h a x q = h q := if_neg hq
theorem ev_up_up {h : ev_h} {a : Nat} {x y : va_E} : ev_up (ev_up h a x) a y = ev_up h a y := by
  funext q
  by_cases hq : q = a
  · simp [ev_up, hq]
  · simp [ev_up, hq]
theorem ev_up_comm {h : ev_h} {a b : Nat} {x y : va_E} (hab : a ≠ b) : ev_up (ev_up h a x) b y = ev_up (ev_up h b y) a x := by
  funext q
  by_cases h1 : q = a
  · subst h1
    simp [ev_up, hab]
  · simp [ev_up, h1]
theorem ev_up_self {h : ev_h} {a : Nat} {x : va_E} (hx : h a = some x) : ev_up h a x = h := by
  funext q
  by_cases hq : q = a
  · subst hq
    simp [ev_up, hx]
  · simp [ev_up, hq]
def ev_H (D : va_G) (h : ev_h) (H : Heap) : Prop := ∀ (a : Nat) (x : va_E), h a = some x → va_at D ev_cl (a, x) H
def ev_R (E : ev_E) (h : ev_h) (sz : Nat) (H : Heap) (locs : List Loc) : Prop :=
  ev_H E.2.1 h H ∧ H.size = sz ∧ ev_b E ≤ sz ∧ (∀ a x, h a = some x → ev_b E ≤ a) ∧ (∀ q : Nat, q < ev_b E → H[q]? = E.2.2.2.1.heap[q]?) ∧ ∀ x ∈ locs, ev_b E ≤ x.base
/-- what holds at the law's entry: the words of the tables, classes and array classes, text constants; no stack traces -/
def ev_ok (E : ev_E) : Prop := (∀ w ∈ lw_tbl, w.before E.2.2.2.2 E.2.2.2.1 = true) ∧ va_K E.2.1 ev_cl (ev_tys E.2.2.1) E.2.2.2.1 ∧ (∀ q ∈ ev_strs, ∃ a, vk_R q.1 q.2.1 q.2.2 a E.2.2.2.1) ∧ E.1.stackTraces = false ∧ (∀ w ∈ ev_stat, w.before E.2.2.2.2 E.2.2.2.1 = true)
/-- a frame's context: its state lies behind the law's entry; its code is M's -/
def ev_C (E : ev_E) (M : ev_M) (p : Program) (s : State) (m : MethodId) (meth : Method) (c : Code) : Prop :=
  ev_ok E ∧ p.tables.exec = Jvm.exec ∧ c.code = M.2.1 ∧ c.maxLocals = M.2.2.1 ∧ meth.sig.returnType = M.2.2.2.1 ∧ meth.locks = false ∧
  (c.exceptionTable.toList.map fun x => (x.startPc, x.endPc, x.handlerPc, x.catchType)) = M.2.2.2.2 ∧ s.vm.findClass M.1.cls = some m.cls ∧ meth.name = M.1.name ∧
  E.2.2.2.1.WarmedH s.vm ∧ (∀ q : Nat, q < ev_b E → s.heap[q]? = E.2.2.2.1.heap[q]?) ∧ ev_b E ≤ s.heap.size
section EVC0
variable {E : ev_E} {M : ev_M} {p : Program} {s : State} {m : MethodId} {meth : Method} {c : Code}
theorem ev_C.ok (hC : ev_C E M p s m meth c) : ev_ok E := hC.1
theorem ev_C.ex (hC : ev_C E M p s m meth c) : p.tables.exec = Jvm.exec := hC.2.1
theorem ev_C.cd (hC : ev_C E M p s m meth c) : c.code = M.2.1 := hC.2.2.1
theorem ev_C.ml (hC : ev_C E M p s m meth c) : c.maxLocals = M.2.2.1 := hC.2.2.2.1
theorem ev_C.rt (hC : ev_C E M p s m meth c) : meth.sig.returnType = M.2.2.2.1 := hC.2.2.2.2.1
theorem ev_C.lk (hC : ev_C E M p s m meth c) : meth.locks = false := hC.2.2.2.2.2.1
theorem ev_C.xt (hC : ev_C E M p s m meth c) : (c.exceptionTable.toList.map fun x => (x.startPc, x.endPc, x.handlerPc, x.catchType)) = M.2.2.2.2 := hC.2.2.2.2.2.2.1
theorem ev_C.ow (hC : ev_C E M p s m meth c) : s.vm.findClass M.1.cls = some m.cls := hC.2.2.2.2.2.2.2.1
theorem ev_C.nm (hC : ev_C E M p s m meth c) : meth.name = M.1.name := hC.2.2.2.2.2.2.2.2.1
theorem ev_C.wm (hC : ev_C E M p s m meth c) : E.2.2.2.1.WarmedH s.vm := hC.2.2.2.2.2.2.2.2.2.1
theorem ev_C.lo (hC : ev_C E M p s m meth c) : ∀ q : Nat, q < ev_b E → s.heap[q]? = E.2.2.2.1.heap[q]? := hC.2.2.2.2.2.2.2.2.2.2.1
theorem ev_C.bz (hC : ev_C E M p s m meth c) : ev_b E ≤ s.heap.size := hC.2.2.2.2.2.2.2.2.2.2.2
theorem ev_C.w (hC : ev_C E M p s m meth c) {w : Cond} (hw : w ∈ lw_tbl) (hg : ev_gd w) (args : Array Value) : w.before args s = true := hg _ _ _ _ hC.wm (hC.1.1 w hw)
theorem ev_C.nc (hC : ev_C E M p s m meth c) {a b : String} (hw : Cond.not (.castable a b) ∈ lw_tbl) : va_Nc a b s := va_Nc.moved hC.wm.alike (va_Nc.of (hC.1.1 _ hw))
theorem ev_C.K (hC : ev_C E M p s m meth c) : va_K E.2.1 ev_cl (ev_tys E.2.2.1) s := va_K.moved hC.wm.alike hC.1.2.1
end EVC0
-- locals: a list of what is known of each place
def ev_L (nL : Nat) (lsr : Array Slot) (ls : List (Option Value)) : Prop := lsr.size = nL ∧ lv_wf lsr ∧ ∀ (i : Nat) (v : Value), ls[i]? = some (some v) → lsr[i]? = some (.val v)
/-- what holds of the machine's state when the frame has ended -/
def ev_Z (E : ev_E) (s : State) (below : List Frame) (R : Room) (Q : ev_Q) (t : State) : Prop :=
  ∃ (o : Outcome) (h : ev_h) (sz k n : Nat) (L : List Loc) (cells slots : Nat), t.status = .running ∧ Ended t below o ∧ s.WarmedH t.vm ∧ s.sameButNew ({ t with vm := s.vm } : State) L cells slots ∧
    ev_R E h sz t.heap L ∧ cells + k ≤ R.cells ∧ slots + n ≤ R.slots ∧ Q o h sz k n
def Ev (E : ev_E) (M : ev_M) (d pc : Nat) (ls : List (Option Value)) (st : List Value) (h : ev_h) (sz k n : Nat) (Q : ev_Q) : Prop :=
  ∀ (p : Program) (e : Env) (R : Room) (s : State) (m : MethodId) (args : Array Value) (below : List Frame) (meth : Method) (c : Code) (H : Heap) (locs : List Loc) (cells slots : Nat) (lsr : Array Slot),
    ev_C E M p s m meth c → ev_R E h sz H locs → ev_L M.2.2.1 lsr ls → d ≤ R.frames → d * 64 ≤ R.locals → cells + k ≤ R.cells → slots + n ≤ R.slots →
    W p E.1 e R s m args below meth c H locs cells slots (ev_Z E s below R Q) (F0 m pc lsr st)
/-- an instruction's decode row, and the pc behind it -/
def ev_d (M : ev_M) (pc : Nat) (i : Instr) (len pc' : Nat) : Prop := decode M.2.1 pc = .ok (i, len) ∧ pc + len = pc'
theorem ev_dt {M : ev_M} {t : ev_tab} (h : ev_dall M t) (i : Nat) {pc len pc' : Nat} {ins : Instr} (hi : t[i]? = some (pc, ins, len, pc')) : ev_d M pc ins len pc' := by
  have h1 := h (pc, ins, len, pc') (List.mem_of_getElem? hi)
  exact ⟨h1.1, h1.2⟩
section EV
variable {E : ev_E} {M : ev_M} {d pc : Nat} {ls : List (Option Value)} {st : List Value} {h : ev_h} {sz k n : Nat} {Q : ev_Q}
/-- more room than needed -/
theorem ev_wide {d' k' n' : Nat} (hd : d' ≤ d) (hk : k' ≤ k) (hn : n' ≤ n) (kk : Ev E M d' pc ls st h sz k' n' Q) : Ev E M d pc ls st h sz k n Q :=
  fun p e R s m args below meth c H locs cells slots lsr hC hR hL h1 h2 h3 h4 => kk p e R s m args below meth c H locs cells slots lsr hC hR hL (by omega) (Nat.le_trans (Nat.mul_le_mul_right 64 hd) h2) (by omega) (by omega)
/-- a stronger end -/
theorem ev_post {Q' : ev_Q} (kk : Ev E M d pc ls st h sz k n Q') (hq : ∀ o h' sz' k' n', Q' o h' sz' k' n' → Q o h' sz' k' n') : Ev E M d pc ls st h sz k n Q := by
  intro p e R s m args below meth c H locs cells slots lsr hC hR hL h1 h2 h3 h4 T hT X
  obtain ⟨t, st', o, h', sz', k', n', L, c', n2, g1, g2, g3, g4, g5, g6, g7, g8⟩ := kk p e R s m args below meth c H locs cells slots lsr hC hR hL h1 h2 h3 h4 T hT X
  exact ⟨t, st', o, h', sz', k', n', L, c', n2, g1, g2, g3, g4, g5, g6, g7, hq _ _ _ _ _ g8⟩
/-- an instruction that moves nothing but pc and stack -/
theorem ev_pure {pc' : Nat} {st' : List Value}
    (hw : ∀ {p : Program} {e : Env} {R : Room} {s : State} {m : MethodId} {args : Array Value} {below : List Frame} {meth : Method} {c : Code} {H : Heap} {locs : List Loc} {cells slots : Nat} {Z : State → Prop} {lsr : Array Slot},
      p.tables.exec = Jvm.exec → c.code = M.2.1 → ev_L M.2.2.1 lsr ls → W p E.1 e R s m args below meth c H locs cells slots Z (F0 m pc' lsr st') → W p E.1 e R s m args below meth c H locs cells slots Z (F0 m pc lsr st))
    (kk : Ev E M d pc' ls st' h sz k n Q) : Ev E M d pc ls st h sz k n Q :=
  fun p e R s m args below meth c H locs cells slots lsr hC hR hL h1 h2 h3 h4 => hw hC.ex hC.cd hL (kk p e R s m args below meth c H locs cells slots lsr hC hR hL h1 h2 h3 h4)
/-- a branch -/
theorem ev_br {P : Prop} {pt pf : Nat} {st' : List Value}
    (hw : ∀ {p : Program} {e : Env} {R : Room} {s : State} {m : MethodId} {args : Array Value} {below : List Frame} {meth : Method} {c : Code} {H : Heap} {locs : List Loc} {cells slots : Nat} {Z : State → Prop} {lsr : Array Slot},
      p.tables.exec = Jvm.exec → c.code = M.2.1 → (P → W p E.1 e R s m args below meth c H locs cells slots Z (F0 m pt lsr st')) → (¬ P → W p E.1 e R s m args below meth c H locs cells slots Z (F0 m pf lsr st')) → W p E.1 e R s m args below meth c H locs cells slots Z (F0 m pc lsr st))
    (kt : P → Ev E M d pt ls st' h sz k n Q) (kf : ¬ P → Ev E M d pf ls st' h sz k n Q) : Ev E M d pc ls st h sz k n Q :=
  fun p e R s m args below meth c H locs cells slots lsr hC hR hL h1 h2 h3 h4 => hw hC.ex hC.cd
    (fun a => kt a p e R s m args below meth c H locs cells slots lsr hC hR hL h1 h2 h3 h4) (fun a => kf a p e R s m args below meth c H locs cells slots lsr hC hR hL h1 h2 h3 h4)
end EV
-- locals: from a list of places to the kit's pairs and back
def ev_c1 : Option Value → Bool
  | none => true
  | some w => w.category == 1
def ev_prev (ls : List (Option Value)) : Nat → Option (Option Value)
  | 0 => none
  | j + 1 => ls[j]?
theorem ev_c1_of {x : Option Value} {w : Value} (h : ev_c1 x = true) (hw : some x = some (some w)) : w.category ≠ 2 := by
  cases hw
  simp only [ev_c1, beq_iff_eq] at h
  omega
def ev_prs (ls : List (Option Value)) : List (Nat × Value) := (List.range ls.length).filterMap fun j => (ls[j]?.join).map fun w => (j, w)
theorem ev_prs_mem {ls : List (Option Value)} {j : Nat} {w : Value} : (j, w) ∈ ev_prs ls ↔ ls[j]? = some (some w) := by
  simp only [ev_prs, List.mem_filterMap, List.mem_range, Option.map_eq_some_iff, Prod.mk.injEq]
  constructor
  · rintro ⟨i, hi, u, hu, rfl, rfl⟩
    rw [List.getElem?_eq_getElem hi] at hu ⊢
    simpa using hu
  · intro hj
    have hlt : j < ls.length := (List.getElem?_eq_some_iff.mp hj).1
    exact ⟨j, hlt, w, by rw [hj]; rfl, rfl, rfl⟩
theorem ev_has {nL : Nat} {lsr : Array Slot} {ls : List (Option Value)} (hL : ev_L nL lsr ls) : lv_has lsr nL (ev_prs ls) := ⟨hL.1, hL.2.1, fun q hq => hL.2.2 q.1 q.2 (ev_prs_mem.mp hq)⟩
theorem ev_has1 {nL i : Nat} {v : Value} {lsr : Array Slot} {ls : List (Option Value)} (hi : lsr[i]? = some (.val v)) (hL : ev_L nL lsr ls) : lv_has lsr nL ((i, v) :: ev_prs ls) :=
  ⟨hL.1, hL.2.1, fun q hq => by
    rcases List.mem_cons.mp hq with rfl | hq
    · exact hi
    · exact hL.2.2 q.1 q.2 (ev_prs_mem.mp hq)⟩
theorem ev_L_gen {nL i : Nat} {v : Value} {ls' : Array Slot} {ls : List (Option Value)} {lv : List (Nat × Value)} (hsub : ∀ q ∈ ev_prs ls, q ∈ lv)
    (hl : lv_has ls' nL ((i, v) :: lv.filter (fun q => !(q.1 == i) && !(q.1 + 1 == i && q.2.category == 2)))) (hp : ∀ w, ev_prev ls i = some (some w) → w.category ≠ 2) : ev_L nL ls' (ls.set i (some v)) := by
  refine ⟨hl.1, hl.2.1, fun j w hj => ?_⟩
  by_cases hji : j = i
  · subst hji
    by_cases hlt : j < ls.length
    · rw [List.getElem?_set_self hlt] at hj
      cases hj
      exact hl.2.2 (j, v) List.mem_cons_self
    · rw [List.getElem?_eq_none (by simpa using Nat.le_of_not_lt hlt)] at hj
      cases hj
  · rw [List.getElem?_set_ne (Ne.symm hji)] at hj
    refine hl.2.2 (j, w) (List.mem_cons_of_mem _ (List.mem_filter.mpr ⟨hsub _ (ev_prs_mem.mpr hj), ?_⟩))
    have h1 : ¬ (j + 1 = i ∧ w.category = 2) := by
      rintro ⟨rfl, h2⟩
      exact hp w hj h2
    simp only [Bool.and_eq_true, Bool.not_eq_true', beq_eq_false_iff_ne, Bool.and_eq_false_iff]
    refine ⟨hji, ?_⟩
    by_cases h3 : j + 1 = i
    · exact Or.inr fun h4 => h1 ⟨h3, h4⟩
    · exact Or.inl h3
theorem ev_L_gen2 {nL i : Nat} {v : Value} {ls' : Array Slot} {ls : List (Option Value)}
    (hl : lv_has ls' nL ((i, v) :: (ev_prs ls).filter (fun q => !(q.1 == i) && (!(q.1 == i + 1) && !(q.1 + 1 == i && q.2.category == 2))))) (hp : ∀ w, ev_prev ls i = some (some w) → w.category ≠ 2) : ev_L nL ls' ((ls.set i (some v)).set (i + 1) none) := by
  refine ⟨hl.1, hl.2.1, fun j w hj => ?_⟩
  by_cases hj2 : j = i + 1
  · subst hj2
    by_cases hlt : i + 1 < (ls.set i (some v)).length
    · rw [List.getElem?_set_self hlt] at hj
      cases hj
    · rw [List.getElem?_eq_none (by simpa using Nat.le_of_not_lt hlt)] at hj
      cases hj
  rw [List.getElem?_set_ne (Ne.symm hj2)] at hj
  by_cases hji : j = i
  · subst hji
    by_cases hlt : j < ls.length
    · rw [List.getElem?_set_self hlt] at hj
      cases hj
      exact hl.2.2 (j, v) List.mem_cons_self
    · rw [List.getElem?_eq_none (by simpa using Nat.le_of_not_lt hlt)] at hj
      cases hj
  · rw [List.getElem?_set_ne (Ne.symm hji)] at hj
    refine hl.2.2 (j, w) (List.mem_cons_of_mem _ (List.mem_filter.mpr ⟨ev_prs_mem.mpr hj, ?_⟩))
    have h1 : ¬ (j + 1 = i ∧ w.category = 2) := by
      rintro ⟨rfl, h2⟩
      exact hp w hj h2
    simp only [Bool.and_eq_true, Bool.not_eq_true', beq_eq_false_iff_ne, Bool.and_eq_false_iff]
    refine ⟨hji, hj2, ?_⟩
    by_cases h3 : j + 1 = i
    · exact Or.inr fun h4 => h1 ⟨h3, h4⟩
    · exact Or.inl h3
theorem ev_L_set {nL i : Nat} {v : Value} {ls' : Array Slot} {ls : List (Option Value)}
    (hl : lv_has ls' nL ((i, v) :: (ev_prs ls).filter (fun q => !(q.1 == i) && !(q.1 + 1 == i && q.2.category == 2)))) (hp : ∀ w, ev_prev ls i = some (some w) → w.category ≠ 2) : ev_L nL ls' (ls.set i (some v)) := ev_L_gen (fun _ h => h) hl hp
theorem ev_L_set1 {nL i : Nat} {u v : Value} {ls' : Array Slot} {ls : List (Option Value)}
    (hl : lv_has ls' nL ((i, v) :: ((i, u) :: ev_prs ls).filter (fun q => !(q.1 == i) && !(q.1 + 1 == i && q.2.category == 2)))) (hp : ∀ w, ev_prev ls i = some (some w) → w.category ≠ 2) : ev_L nL ls' (ls.set i (some v)) := ev_L_gen (fun _ h => List.mem_cons_of_mem _ h) hl hp
/-- less known of the locals -/
theorem ev_less {E : ev_E} {M : ev_M} {d pc : Nat} {ls ls' : List (Option Value)} {st : List Value} {h : ev_h} {sz k n : Nat} {Q : ev_Q} (hl : ∀ (i : Nat) (v : Value), ls'[i]? = some (some v) → ls[i]? = some (some v)) (kk : Ev E M d pc ls' st h sz k n Q) : Ev E M d pc ls st h sz k n Q :=
  fun p e R s m args below meth c H locs cells slots lsr hC hR hL h1 h2 h3 h4 => kk p e R s m args below meth c H locs cells slots lsr hC hR ⟨hL.1, hL.2.1, fun i v hi => hL.2.2 i v (hl i v hi)⟩ h1 h2 h3 h4
-- returns
section EVR
variable {E : ev_E} {M : ev_M} {d pc pc' : Nat} {ls : List (Option Value)} {h : ev_h} {sz k n : Nat} {Q : ev_Q}
theorem ev_ireturn {v : Int32} {ty : FieldType} (hd : ev_d M pc .ireturn 1 pc') (hr : M.2.2.2.1 = some ty) (hn : narrow ty (.int v) = .int v) (hq : Q (.returned (some (.int v))) h sz k n) : Ev E M d pc ls [.int v] h sz k n Q := by
  intro p e R s m args below meth c H locs cells slots lsr hC hR hL h1 h2 h3 h4 T hT X
  obtain ⟨hd, -⟩ := hd
  have hx := hC.ex
  have hb := hC.cd
  have hlk := hC.lk
  have hr' : meth.sig.returnType = some ty := hC.rt.trans hr
  obtain ⟨fs, hret, hrun, hended, hWm, hframe⟩ := X.leave (v := some (.int v)) (hlocks := hlk) (fun h => by rw [hr'] at h; cases h)
  have hmeth' : T.vm.method? m = some meth := X.method'
  refine ⟨T.setFrames fs, ?_, .returned (some (.int v)), h, sz, k, n, locs, cells, slots, hrun, hended, hWm, hframe, by rw [show (T.setFrames fs).heap = H from hT]; exact hR, h3, h4, hq⟩
  jvm_step X.here [X.here.top, hx, hb, hd, hmeth', hr', hn]
  (try refine ⟨rfl, ?_⟩); (try refine ⟨rfl, ?_⟩)
  first | (intro acts; rw [hret _ acts rfl rfl rfl]) | rw [hret _ _ rfl rfl rfl]
  exact Steps.refl _
theorem ev_lreturn {v : Int64} (hd : ev_d M pc .lreturn 1 pc') (hr : M.2.2.2.1 = some .long) (hq : Q (.returned (some (.long v))) h sz k n) : Ev E M d pc ls [.long v] h sz k n Q := by
  intro p e R s m args below meth c H locs cells slots lsr hC hR hL h1 h2 h3 h4 T hT X
  obtain ⟨hd, -⟩ := hd
  have hx := hC.ex
  have hb := hC.cd
  have hlk := hC.lk
  have hr' : meth.sig.returnType = some .long := hC.rt.trans hr
  obtain ⟨fs, hret, hrun, hended, hWm, hframe⟩ := X.leave (v := some (.long v)) (hlocks := hlk) (fun h => by rw [hr'] at h; cases h)
  have hmeth' : T.vm.method? m = some meth := X.method'
  refine ⟨T.setFrames fs, ?_, .returned (some (.long v)), h, sz, k, n, locs, cells, slots, hrun, hended, hWm, hframe, by rw [show (T.setFrames fs).heap = H from hT]; exact hR, h3, h4, hq⟩
  jvm_step X.here [X.here.top, hx, hb, hd, hmeth', hr', narrow]
  (try refine ⟨rfl, ?_⟩); (try refine ⟨rfl, ?_⟩)
  first | (intro acts; rw [hret _ acts rfl rfl rfl]) | rw [hret _ _ rfl rfl rfl]
  exact Steps.refl _
theorem ev_areturn {a : Nat} {cn : String} (hd : ev_d M pc .areturn 1 pc') (hr : M.2.2.2.1 = some (.object cn)) (hq : Q (.returned (some (.ref a))) h sz k n) : Ev E M d pc ls [.ref a] h sz k n Q := by
  intro p e R s m args below meth c H locs cells slots lsr hC hR hL h1 h2 h3 h4 T hT X
  obtain ⟨hd, -⟩ := hd
  have hx := hC.ex
  have hb := hC.cd
  have hlk := hC.lk
  have hr' : meth.sig.returnType = some (.object cn) := hC.rt.trans hr
  obtain ⟨fs, hret, hrun, hended, hWm, hframe⟩ := X.leave (v := some (.ref a)) (hlocks := hlk) (fun h => by rw [hr'] at h; cases h)
  have hmeth' : T.vm.method? m = some meth := X.method'
  refine ⟨T.setFrames fs, ?_, .returned (some (.ref a)), h, sz, k, n, locs, cells, slots, hrun, hended, hWm, hframe, by rw [show (T.setFrames fs).heap = H from hT]; exact hR, h3, h4, hq⟩
  jvm_step X.here [X.here.top, hx, hb, hd, hmeth', hr']
  (try refine ⟨rfl, ?_⟩); (try refine ⟨rfl, ?_⟩)
  first | (intro acts; rw [hret _ acts rfl rfl rfl]) | rw [hret _ _ rfl rfl rfl]
  exact Steps.refl _
theorem ev_return (hd : ev_d M pc .return_ 1 pc') (hr : M.2.2.2.1 = none) (hq : Q (.returned none) h sz k n) : Ev E M d pc ls [] h sz k n Q := by
  intro p e R s m args below meth c H locs cells slots lsr hC hR hL h1 h2 h3 h4 T hT X
  obtain ⟨hd, -⟩ := hd
  have hx := hC.ex
  have hb := hC.cd
  have hlk := hC.lk
  have hr' : meth.sig.returnType = none := hC.rt.trans hr
  obtain ⟨fs, hret, hrun, hended, hWm, hframe⟩ := X.leave (v := none) (hlocks := hlk) (fun _ => rfl)
  have hmeth' : T.vm.method? m = some meth := X.method'
  refine ⟨T.setFrames fs, ?_, .returned none, h, sz, k, n, locs, cells, slots, hrun, hended, hWm, hframe, by rw [show (T.setFrames fs).heap = H from hT]; exact hR, h3, h4, hq⟩
  jvm_step X.here [X.here.top, hx, hb, hd, hmeth', hr']
  (try refine ⟨rfl, ?_⟩); (try refine ⟨rfl, ?_⟩)
  first | (intro acts; rw [hret _ acts rfl rfl rfl]) | rw [hret _ _ rfl rfl rfl]
  exact Steps.refl _
end EVR
end
section
/-! Ev: one rule an instruction: loads, stores, constants, arithmetic, branches (written by gen_fam.py). -/
section EVF
variable {E : ev_E} {M : ev_M} {d pc pc' : Nat} {ls r : List (Option Value)} {st : List Value} {h : ev_h} {sz k n : Nat} {Q : ev_Q}
theorem ev_iload_0 {x : Int32} (hd : ev_d M pc (.iload_n 0) 1 pc') (kk : Ev E M d pc' (some (.int x) :: r) (.int x :: st) h sz k n Q) : Ev E M d pc (some (.int x) :: r) st h sz k n Q := by
  obtain ⟨hd, rfl⟩ := hd
  exact ev_pure (fun hx hb hL kw => lv_iload_n hx hb hd rfl (hL.2.2 0 _ rfl) kw) kk
theorem ev_iload_1 {v0 : Option Value} {x : Int32} (hd : ev_d M pc (.iload_n 1) 1 pc') (kk : Ev E M d pc' (v0 :: some (.int x) :: r) (.int x :: st) h sz k n Q) : Ev E M d pc (v0 :: some (.int x) :: r) st h sz k n Q := by
  obtain ⟨hd, rfl⟩ := hd
  exact ev_pure (fun hx hb hL kw => lv_iload_n hx hb hd rfl (hL.2.2 1 _ rfl) kw) kk
theorem ev_iload_2 {v0 v1 : Option Value} {x : Int32} (hd : ev_d M pc (.iload_n 2) 1 pc') (kk : Ev E M d pc' (v0 :: v1 :: some (.int x) :: r) (.int x :: st) h sz k n Q) : Ev E M d pc (v0 :: v1 :: some (.int x) :: r) st h sz k n Q := by
  obtain ⟨hd, rfl⟩ := hd
  exact ev_pure (fun hx hb hL kw => lv_iload_n hx hb hd rfl (hL.2.2 2 _ rfl) kw) kk
theorem ev_iload_3 {v0 v1 v2 : Option Value} {x : Int32} (hd : ev_d M pc (.iload_n 3) 1 pc') (kk : Ev E M d pc' (v0 :: v1 :: v2 :: some (.int x) :: r) (.int x :: st) h sz k n Q) : Ev E M d pc (v0 :: v1 :: v2 :: some (.int x) :: r) st h sz k n Q := by
  obtain ⟨hd, rfl⟩ := hd
  exact ev_pure (fun hx hb hL kw => lv_iload_n hx hb hd rfl (hL.2.2 3 _ rfl) kw) kk
theorem ev_iload_4 {v0 v1 v2 v3 : Option Value} {x : Int32} (hd : ev_d M pc (.iload 4) 2 pc') (kk : Ev E M d pc' (v0 :: v1 :: v2 :: v3 :: some (.int x) :: r) (.int x :: st) h sz k n Q) : Ev E M d pc (v0 :: v1 :: v2 :: v3 :: some (.int x) :: r) st h sz k n Q := by
  obtain ⟨hd, rfl⟩ := hd
  exact ev_pure (fun hx hb hL kw => lv_iload hx hb hd (hL.2.2 4 _ rfl) kw) kk
theorem ev_iload_5 {v0 v1 v2 v3 v4 : Option Value} {x : Int32} (hd : ev_d M pc (.iload 5) 2 pc') (kk : Ev E M d pc' (v0 :: v1 :: v2 :: v3 :: v4 :: some (.int x) :: r) (.int x :: st) h sz k n Q) : Ev E M d pc (v0 :: v1 :: v2 :: v3 :: v4 :: some (.int x) :: r) st h sz k n Q := by
  obtain ⟨hd, rfl⟩ := hd
  exact ev_pure (fun hx hb hL kw => lv_iload hx hb hd (hL.2.2 5 _ rfl) kw) kk
theorem ev_iload_6 {v0 v1 v2 v3 v4 v5 : Option Value} {x : Int32} (hd : ev_d M pc (.iload 6) 2 pc') (kk : Ev E M d pc' (v0 :: v1 :: v2 :: v3 :: v4 :: v5 :: some (.int x) :: r) (.int x :: st) h sz k n Q) : Ev E M d pc (v0 :: v1 :: v2 :: v3 :: v4 :: v5 :: some (.int x) :: r) st h sz k n Q := by
  obtain ⟨hd, rfl⟩ := hd
  exact ev_pure (fun hx hb hL kw => lv_iload hx hb hd (hL.2.2 6 _ rfl) kw) kk
theorem ev_iload_7 {v0 v1 v2 v3 v4 v5 v6 : Option Value} {x : Int32} (hd : ev_d M pc (.iload 7) 2 pc') (kk : Ev E M d pc' (v0 :: v1 :: v2 :: v3 :: v4 :: v5 :: v6 :: some (.int x) :: r) (.int x :: st) h sz k n Q) : Ev E M d pc (v0 :: v1 :: v2 :: v3 :: v4 :: v5 :: v6 :: some (.int x) :: r) st h sz k n Q := by
  obtain ⟨hd, rfl⟩ := hd
  exact ev_pure (fun hx hb hL kw => lv_iload hx hb hd (hL.2.2 7 _ rfl) kw) kk
theorem ev_iload_8 {v0 v1 v2 v3 v4 v5 v6 v7 : Option Value} {x : Int32} (hd : ev_d M pc (.iload 8) 2 pc') (kk : Ev E M d pc' (v0 :: v1 :: v2 :: v3 :: v4 :: v5 :: v6 :: v7 :: some (.int x) :: r) (.int x :: st) h sz k n Q) : Ev E M d pc (v0 :: v1 :: v2 :: v3 :: v4 :: v5 :: v6 :: v7 :: some (.int x) :: r) st h sz k n Q := by
  obtain ⟨hd, rfl⟩ := hd
  exact ev_pure (fun hx hb hL kw => lv_iload hx hb hd (hL.2.2 8 _ rfl) kw) kk
theorem ev_iload_9 {v0 v1 v2 v3 v4 v5 v6 v7 v8 : Option Value} {x : Int32} (hd : ev_d M pc (.iload 9) 2 pc') (kk : Ev E M d pc' (v0 :: v1 :: v2 :: v3 :: v4 :: v5 :: v6 :: v7 :: v8 :: some (.int x) :: r) (.int x :: st) h sz k n Q) : Ev E M d pc (v0 :: v1 :: v2 :: v3 :: v4 :: v5 :: v6 :: v7 :: v8 :: some (.int x) :: r) st h sz k n Q := by
  obtain ⟨hd, rfl⟩ := hd
  exact ev_pure (fun hx hb hL kw => lv_iload hx hb hd (hL.2.2 9 _ rfl) kw) kk
theorem ev_iload_10 {v0 v1 v2 v3 v4 v5 v6 v7 v8 v9 : Option Value} {x : Int32} (hd : ev_d M pc (.iload 10) 2 pc') (kk : Ev E M d pc' (v0 :: v1 :: v2 :: v3 :: v4 :: v5 :: v6 :: v7 :: v8 :: v9 :: some (.int x) :: r) (.int x :: st) h sz k n Q) : Ev E M d pc (v0 :: v1 :: v2 :: v3 :: v4 :: v5 :: v6 :: v7 :: v8 :: v9 :: some (.int x) :: r) st h sz k n Q := by
  obtain ⟨hd, rfl⟩ := hd
  exact ev_pure (fun hx hb hL kw => lv_iload hx hb hd (hL.2.2 10 _ rfl) kw) kk
theorem ev_iload_11 {v0 v1 v2 v3 v4 v5 v6 v7 v8 v9 v10 : Option Value} {x : Int32} (hd : ev_d M pc (.iload 11) 2 pc') (kk : Ev E M d pc' (v0 :: v1 :: v2 :: v3 :: v4 :: v5 :: v6 :: v7 :: v8 :: v9 :: v10 :: some (.int x) :: r) (.int x :: st) h sz k n Q) : Ev E M d pc (v0 :: v1 :: v2 :: v3 :: v4 :: v5 :: v6 :: v7 :: v8 :: v9 :: v10 :: some (.int x) :: r) st h sz k n Q := by
  obtain ⟨hd, rfl⟩ := hd
  exact ev_pure (fun hx hb hL kw => lv_iload hx hb hd (hL.2.2 11 _ rfl) kw) kk
theorem ev_iload_12 {v0 v1 v2 v3 v4 v5 v6 v7 v8 v9 v10 v11 : Option Value} {x : Int32} (hd : ev_d M pc (.iload 12) 2 pc') (kk : Ev E M d pc' (v0 :: v1 :: v2 :: v3 :: v4 :: v5 :: v6 :: v7 :: v8 :: v9 :: v10 :: v11 :: some (.int x) :: r) (.int x :: st) h sz k n Q) : Ev E M d pc (v0 :: v1 :: v2 :: v3 :: v4 :: v5 :: v6 :: v7 :: v8 :: v9 :: v10 :: v11 :: some (.int x) :: r) st h sz k n Q := by
  obtain ⟨hd, rfl⟩ := hd
  exact ev_pure (fun hx hb hL kw => lv_iload hx hb hd (hL.2.2 12 _ rfl) kw) kk
theorem ev_iload_13 {v0 v1 v2 v3 v4 v5 v6 v7 v8 v9 v10 v11 v12 : Option Value} {x : Int32} (hd : ev_d M pc (.iload 13) 2 pc') (kk : Ev E M d pc' (v0 :: v1 :: v2 :: v3 :: v4 :: v5 :: v6 :: v7 :: v8 :: v9 :: v10 :: v11 :: v12 :: some (.int x) :: r) (.int x :: st) h sz k n Q) : Ev E M d pc (v0 :: v1 :: v2 :: v3 :: v4 :: v5 :: v6 :: v7 :: v8 :: v9 :: v10 :: v11 :: v12 :: some (.int x) :: r) st h sz k n Q := by
  obtain ⟨hd, rfl⟩ := hd
  exact ev_pure (fun hx hb hL kw => lv_iload hx hb hd (hL.2.2 13 _ rfl) kw) kk
theorem ev_aload_0 {x : Nat} (hd : ev_d M pc (.aload_n 0) 1 pc') (kk : Ev E M d pc' (some (.ref x) :: r) (.ref x :: st) h sz k n Q) : Ev E M d pc (some (.ref x) :: r) st h sz k n Q := by
  obtain ⟨hd, rfl⟩ := hd
  exact ev_pure (fun hx hb hL kw => lv_aload_n hx hb hd rfl (hL.2.2 0 _ rfl) kw) kk
theorem ev_aload_1 {v0 : Option Value} {x : Nat} (hd : ev_d M pc (.aload_n 1) 1 pc') (kk : Ev E M d pc' (v0 :: some (.ref x) :: r) (.ref x :: st) h sz k n Q) : Ev E M d pc (v0 :: some (.ref x) :: r) st h sz k n Q := by
  obtain ⟨hd, rfl⟩ := hd
  exact ev_pure (fun hx hb hL kw => lv_aload_n hx hb hd rfl (hL.2.2 1 _ rfl) kw) kk
theorem ev_aload_2 {v0 v1 : Option Value} {x : Nat} (hd : ev_d M pc (.aload_n 2) 1 pc') (kk : Ev E M d pc' (v0 :: v1 :: some (.ref x) :: r) (.ref x :: st) h sz k n Q) : Ev E M d pc (v0 :: v1 :: some (.ref x) :: r) st h sz k n Q := by
  obtain ⟨hd, rfl⟩ := hd
  exact ev_pure (fun hx hb hL kw => lv_aload_n hx hb hd rfl (hL.2.2 2 _ rfl) kw) kk
theorem ev_aload_3 {v0 v1 v2 : Option Value} {x : Nat} (hd : ev_d M pc (.aload_n 3) 1 pc') (kk : Ev E M d pc' (v0 :: v1 :: v2 :: some (.ref x) :: r) (.ref x :: st) h sz k n Q) : Ev E M d pc (v0 :: v1 :: v2 :: some (.ref x) :: r) st h sz k n Q := by
  obtain ⟨hd, rfl⟩ := hd
  exact ev_pure (fun hx hb hL kw => lv_aload_n hx hb hd rfl (hL.2.2 3 _ rfl) kw) kk
theorem ev_aload_4 {v0 v1 v2 v3 : Option Value} {x : Nat} (hd : ev_d M pc (.aload 4) 2 pc') (kk : Ev E M d pc' (v0 :: v1 :: v2 :: v3 :: some (.ref x) :: r) (.ref x :: st) h sz k n Q) : Ev E M d pc (v0 :: v1 :: v2 :: v3 :: some (.ref x) :: r) st h sz k n Q := by
  obtain ⟨hd, rfl⟩ := hd
  exact ev_pure (fun hx hb hL kw => lv_aload hx hb hd (hL.2.2 4 _ rfl) kw) kk
theorem ev_aload_5 {v0 v1 v2 v3 v4 : Option Value} {x : Nat} (hd : ev_d M pc (.aload 5) 2 pc') (kk : Ev E M d pc' (v0 :: v1 :: v2 :: v3 :: v4 :: some (.ref x) :: r) (.ref x :: st) h sz k n Q) : Ev E M d pc (v0 :: v1 :: v2 :: v3 :: v4 :: some (.ref x) :: r) st h sz k n Q := by
  obtain ⟨hd, rfl⟩ := hd
  exact ev_pure (fun hx hb hL kw => lv_aload hx hb hd (hL.2.2 5 _ rfl) kw) kk
theorem ev_aload_6 {v0 v1 v2 v3 v4 v5 : Option Value} {x : Nat} (hd : ev_d M pc (.aload 6) 2 pc') (kk : Ev E M d pc' (v0 :: v1 :: v2 :: v3 :: v4 :: v5 :: some (.ref x) :: r) (.ref x :: st) h sz k n Q) : Ev E M d pc (v0 :: v1 :: v2 :: v3 :: v4 :: v5 :: some (.ref x) :: r) st h sz k n Q := by
  obtain ⟨hd, rfl⟩ := hd
  exact ev_pure (fun hx hb hL kw => lv_aload hx hb hd (hL.2.2 6 _ rfl) kw) kk
theorem ev_aload_7 {v0 v1 v2 v3 v4 v5 v6 : Option Value} {x : Nat} (hd : ev_d M pc (.aload 7) 2 pc') (kk : Ev E M d pc' (v0 :: v1 :: v2 :: v3 :: v4 :: v5 :: v6 :: some (.ref x) :: r) (.ref x :: st) h sz k n Q) : Ev E M d pc (v0 :: v1 :: v2 :: v3 :: v4 :: v5 :: v6 :: some (.ref x) :: r) st h sz k n Q := by
  obtain ⟨hd, rfl⟩ := hd
  exact ev_pure (fun hx hb hL kw => lv_aload hx hb hd (hL.2.2 7 _ rfl) kw) kk
theorem ev_aload_8 {v0 v1 v2 v3 v4 v5 v6 v7 : Option Value} {x : Nat} (hd : ev_d M pc (.aload 8) 2 pc') (kk : Ev E M d pc' (v0 :: v1 :: v2 :: v3 :: v4 :: v5 :: v6 :: v7 :: some (.ref x) :: r) (.ref x :: st) h sz k n Q) : Ev E M d pc (v0 :: v1 :: v2 :: v3 :: v4 :: v5 :: v6 :: v7 :: some (.ref x) :: r) st h sz k n Q := by
  obtain ⟨hd, rfl⟩ := hd
  exact ev_pure (fun hx hb hL kw => lv_aload hx hb hd (hL.2.2 8 _ rfl) kw) kk
theorem ev_aload_9 {v0 v1 v2 v3 v4 v5 v6 v7 v8 : Option Value} {x : Nat} (hd : ev_d M pc (.aload 9) 2 pc') (kk : Ev E M d pc' (v0 :: v1 :: v2 :: v3 :: v4 :: v5 :: v6 :: v7 :: v8 :: some (.ref x) :: r) (.ref x :: st) h sz k n Q) : Ev E M d pc (v0 :: v1 :: v2 :: v3 :: v4 :: v5 :: v6 :: v7 :: v8 :: some (.ref x) :: r) st h sz k n Q := by
  obtain ⟨hd, rfl⟩ := hd
  exact ev_pure (fun hx hb hL kw => lv_aload hx hb hd (hL.2.2 9 _ rfl) kw) kk
theorem ev_aload_10 {v0 v1 v2 v3 v4 v5 v6 v7 v8 v9 : Option Value} {x : Nat} (hd : ev_d M pc (.aload 10) 2 pc') (kk : Ev E M d pc' (v0 :: v1 :: v2 :: v3 :: v4 :: v5 :: v6 :: v7 :: v8 :: v9 :: some (.ref x) :: r) (.ref x :: st) h sz k n Q) : Ev E M d pc (v0 :: v1 :: v2 :: v3 :: v4 :: v5 :: v6 :: v7 :: v8 :: v9 :: some (.ref x) :: r) st h sz k n Q := by
  obtain ⟨hd, rfl⟩ := hd
  exact ev_pure (fun hx hb hL kw => lv_aload hx hb hd (hL.2.2 10 _ rfl) kw) kk
theorem ev_aload_11 {v0 v1 v2 v3 v4 v5 v6 v7 v8 v9 v10 : Option Value} {x : Nat} (hd : ev_d M pc (.aload 11) 2 pc') (kk : Ev E M d pc' (v0 :: v1 :: v2 :: v3 :: v4 :: v5 :: v6 :: v7 :: v8 :: v9 :: v10 :: some (.ref x) :: r) (.ref x :: st) h sz k n Q) : Ev E M d pc (v0 :: v1 :: v2 :: v3 :: v4 :: v5 :: v6 :: v7 :: v8 :: v9 :: v10 :: some (.ref x) :: r) st h sz k n Q := by
  obtain ⟨hd, rfl⟩ := hd
  exact ev_pure (fun hx hb hL kw => lv_aload hx hb hd (hL.2.2 11 _ rfl) kw) kk
theorem ev_aload_12 {v0 v1 v2 v3 v4 v5 v6 v7 v8 v9 v10 v11 : Option Value} {x : Nat} (hd : ev_d M pc (.aload 12) 2 pc') (kk : Ev E M d pc' (v0 :: v1 :: v2 :: v3 :: v4 :: v5 :: v6 :: v7 :: v8 :: v9 :: v10 :: v11 :: some (.ref x) :: r) (.ref x :: st) h sz k n Q) : Ev E M d pc (v0 :: v1 :: v2 :: v3 :: v4 :: v5 :: v6 :: v7 :: v8 :: v9 :: v10 :: v11 :: some (.ref x) :: r) st h sz k n Q := by
  obtain ⟨hd, rfl⟩ := hd
  exact ev_pure (fun hx hb hL kw => lv_aload hx hb hd (hL.2.2 12 _ rfl) kw) kk
theorem ev_aload_13 {v0 v1 v2 v3 v4 v5 v6 v7 v8 v9 v10 v11 v12 : Option Value} {x : Nat} (hd : ev_d M pc (.aload 13) 2 pc') (kk : Ev E M d pc' (v0 :: v1 :: v2 :: v3 :: v4 :: v5 :: v6 :: v7 :: v8 :: v9 :: v10 :: v11 :: v12 :: some (.ref x) :: r) (.ref x :: st) h sz k n Q) : Ev E M d pc (v0 :: v1 :: v2 :: v3 :: v4 :: v5 :: v6 :: v7 :: v8 :: v9 :: v10 :: v11 :: v12 :: some (.ref x) :: r) st h sz k n Q := by
  obtain ⟨hd, rfl⟩ := hd
  exact ev_pure (fun hx hb hL kw => lv_aload hx hb hd (hL.2.2 13 _ rfl) kw) kk
theorem ev_aNload_0 (hd : ev_d M pc (.aload_n 0) 1 pc') (kk : Ev E M d pc' (some (.null) :: r) (.null :: st) h sz k n Q) : Ev E M d pc (some (.null) :: r) st h sz k n Q := by
  obtain ⟨hd, rfl⟩ := hd
  exact ev_pure (fun hx hb hL kw => lv_aload_nN hx hb hd rfl (hL.2.2 0 _ rfl) kw) kk
theorem ev_aNload_1 {v0 : Option Value} (hd : ev_d M pc (.aload_n 1) 1 pc') (kk : Ev E M d pc' (v0 :: some (.null) :: r) (.null :: st) h sz k n Q) : Ev E M d pc (v0 :: some (.null) :: r) st h sz k n Q := by
  obtain ⟨hd, rfl⟩ := hd
  exact ev_pure (fun hx hb hL kw => lv_aload_nN hx hb hd rfl (hL.2.2 1 _ rfl) kw) kk
theorem ev_aNload_2 {v0 v1 : Option Value} (hd : ev_d M pc (.aload_n 2) 1 pc') (kk : Ev E M d pc' (v0 :: v1 :: some (.null) :: r) (.null :: st) h sz k n Q) : Ev E M d pc (v0 :: v1 :: some (.null) :: r) st h sz k n Q := by
  obtain ⟨hd, rfl⟩ := hd
  exact ev_pure (fun hx hb hL kw => lv_aload_nN hx hb hd rfl (hL.2.2 2 _ rfl) kw) kk
theorem ev_aNload_3 {v0 v1 v2 : Option Value} (hd : ev_d M pc (.aload_n 3) 1 pc') (kk : Ev E M d pc' (v0 :: v1 :: v2 :: some (.null) :: r) (.null :: st) h sz k n Q) : Ev E M d pc (v0 :: v1 :: v2 :: some (.null) :: r) st h sz k n Q := by
  obtain ⟨hd, rfl⟩ := hd
  exact ev_pure (fun hx hb hL kw => lv_aload_nN hx hb hd rfl (hL.2.2 3 _ rfl) kw) kk
theorem ev_aNload_4 {v0 v1 v2 v3 : Option Value} (hd : ev_d M pc (.aload 4) 2 pc') (kk : Ev E M d pc' (v0 :: v1 :: v2 :: v3 :: some (.null) :: r) (.null :: st) h sz k n Q) : Ev E M d pc (v0 :: v1 :: v2 :: v3 :: some (.null) :: r) st h sz k n Q := by
  obtain ⟨hd, rfl⟩ := hd
  exact ev_pure (fun hx hb hL kw => lv_aloadN hx hb hd (hL.2.2 4 _ rfl) kw) kk
theorem ev_aNload_5 {v0 v1 v2 v3 v4 : Option Value} (hd : ev_d M pc (.aload 5) 2 pc') (kk : Ev E M d pc' (v0 :: v1 :: v2 :: v3 :: v4 :: some (.null) :: r) (.null :: st) h sz k n Q) : Ev E M d pc (v0 :: v1 :: v2 :: v3 :: v4 :: some (.null) :: r) st h sz k n Q := by
  obtain ⟨hd, rfl⟩ := hd
  exact ev_pure (fun hx hb hL kw => lv_aloadN hx hb hd (hL.2.2 5 _ rfl) kw) kk
theorem ev_lload_0 {x : Int64} (hd : ev_d M pc (.lload_n 0) 1 pc') (kk : Ev E M d pc' (some (.long x) :: r) (.long x :: st) h sz k n Q) : Ev E M d pc (some (.long x) :: r) st h sz k n Q := by
  obtain ⟨hd, rfl⟩ := hd
  exact ev_pure (fun hx hb hL kw => lv_lload_n hx hb hd rfl (hL.2.2 0 _ rfl) kw) kk
theorem ev_lload_1 {v0 : Option Value} {x : Int64} (hd : ev_d M pc (.lload_n 1) 1 pc') (kk : Ev E M d pc' (v0 :: some (.long x) :: r) (.long x :: st) h sz k n Q) : Ev E M d pc (v0 :: some (.long x) :: r) st h sz k n Q := by
  obtain ⟨hd, rfl⟩ := hd
  exact ev_pure (fun hx hb hL kw => lv_lload_n hx hb hd rfl (hL.2.2 1 _ rfl) kw) kk
theorem ev_lload_2 {v0 v1 : Option Value} {x : Int64} (hd : ev_d M pc (.lload_n 2) 1 pc') (kk : Ev E M d pc' (v0 :: v1 :: some (.long x) :: r) (.long x :: st) h sz k n Q) : Ev E M d pc (v0 :: v1 :: some (.long x) :: r) st h sz k n Q := by
  obtain ⟨hd, rfl⟩ := hd
  exact ev_pure (fun hx hb hL kw => lv_lload_n hx hb hd rfl (hL.2.2 2 _ rfl) kw) kk
theorem ev_lload_3 {v0 v1 v2 : Option Value} {x : Int64} (hd : ev_d M pc (.lload_n 3) 1 pc') (kk : Ev E M d pc' (v0 :: v1 :: v2 :: some (.long x) :: r) (.long x :: st) h sz k n Q) : Ev E M d pc (v0 :: v1 :: v2 :: some (.long x) :: r) st h sz k n Q := by
  obtain ⟨hd, rfl⟩ := hd
  exact ev_pure (fun hx hb hL kw => lv_lload_n hx hb hd rfl (hL.2.2 3 _ rfl) kw) kk
theorem ev_lload_4 {v0 v1 v2 v3 : Option Value} {x : Int64} (hd : ev_d M pc (.lload 4) 2 pc') (kk : Ev E M d pc' (v0 :: v1 :: v2 :: v3 :: some (.long x) :: r) (.long x :: st) h sz k n Q) : Ev E M d pc (v0 :: v1 :: v2 :: v3 :: some (.long x) :: r) st h sz k n Q := by
  obtain ⟨hd, rfl⟩ := hd
  exact ev_pure (fun hx hb hL kw => lv_lload hx hb hd (hL.2.2 4 _ rfl) kw) kk
theorem ev_lload_5 {v0 v1 v2 v3 v4 : Option Value} {x : Int64} (hd : ev_d M pc (.lload 5) 2 pc') (kk : Ev E M d pc' (v0 :: v1 :: v2 :: v3 :: v4 :: some (.long x) :: r) (.long x :: st) h sz k n Q) : Ev E M d pc (v0 :: v1 :: v2 :: v3 :: v4 :: some (.long x) :: r) st h sz k n Q := by
  obtain ⟨hd, rfl⟩ := hd
  exact ev_pure (fun hx hb hL kw => lv_lload hx hb hd (hL.2.2 5 _ rfl) kw) kk
theorem ev_lload_6 {v0 v1 v2 v3 v4 v5 : Option Value} {x : Int64} (hd : ev_d M pc (.lload 6) 2 pc') (kk : Ev E M d pc' (v0 :: v1 :: v2 :: v3 :: v4 :: v5 :: some (.long x) :: r) (.long x :: st) h sz k n Q) : Ev E M d pc (v0 :: v1 :: v2 :: v3 :: v4 :: v5 :: some (.long x) :: r) st h sz k n Q := by
  obtain ⟨hd, rfl⟩ := hd
  exact ev_pure (fun hx hb hL kw => lv_lload hx hb hd (hL.2.2 6 _ rfl) kw) kk
theorem ev_lload_7 {v0 v1 v2 v3 v4 v5 v6 : Option Value} {x : Int64} (hd : ev_d M pc (.lload 7) 2 pc') (kk : Ev E M d pc' (v0 :: v1 :: v2 :: v3 :: v4 :: v5 :: v6 :: some (.long x) :: r) (.long x :: st) h sz k n Q) : Ev E M d pc (v0 :: v1 :: v2 :: v3 :: v4 :: v5 :: v6 :: some (.long x) :: r) st h sz k n Q := by
  obtain ⟨hd, rfl⟩ := hd
  exact ev_pure (fun hx hb hL kw => lv_lload hx hb hd (hL.2.2 7 _ rfl) kw) kk
theorem ev_istore_0 {v0 : Option Value} {x : Int32} (hd : ev_d M pc (.istore_n 0) 1 pc') (hn : 0 < M.2.2.1) (kk : Ev E M d pc' (some (.int x) :: r) st h sz k n Q) : Ev E M d pc (v0 :: r) (.int x :: st) h sz k n Q := by
  obtain ⟨hd, rfl⟩ := hd
  exact fun p e R s m args below meth c H locs cells slots lsr hC hR hL h1 h2 h3 h4 => (fun hx hb => lv_istore_n hx hb hd rfl (ev_has hL) hn rfl (fun ls' hl' => kk p e R s m args below meth c H locs cells slots ls' hC hR (ev_L_set (i := 0) (v := .int x) (ls := (v0 :: r)) hl' (fun w hw => by cases hw)) h1 h2 h3 h4)) hC.ex hC.cd
theorem ev_istore_1 {v0 v1 : Option Value} {x : Int32} (hd : ev_d M pc (.istore_n 1) 1 pc') (hn : 1 < M.2.2.1) (hp : ev_c1 v0 = true) (kk : Ev E M d pc' (v0 :: some (.int x) :: r) st h sz k n Q) : Ev E M d pc (v0 :: v1 :: r) (.int x :: st) h sz k n Q := by
  obtain ⟨hd, rfl⟩ := hd
  exact fun p e R s m args below meth c H locs cells slots lsr hC hR hL h1 h2 h3 h4 => (fun hx hb => lv_istore_n hx hb hd rfl (ev_has hL) hn rfl (fun ls' hl' => kk p e R s m args below meth c H locs cells slots ls' hC hR (ev_L_set (i := 1) (v := .int x) (ls := (v0 :: v1 :: r)) hl' (fun w hw => ev_c1_of hp hw)) h1 h2 h3 h4)) hC.ex hC.cd
theorem ev_istore_2 {v0 v1 v2 : Option Value} {x : Int32} (hd : ev_d M pc (.istore_n 2) 1 pc') (hn : 2 < M.2.2.1) (hp : ev_c1 v1 = true) (kk : Ev E M d pc' (v0 :: v1 :: some (.int x) :: r) st h sz k n Q) : Ev E M d pc (v0 :: v1 :: v2 :: r) (.int x :: st) h sz k n Q := by
  obtain ⟨hd, rfl⟩ := hd
  exact fun p e R s m args below meth c H locs cells slots lsr hC hR hL h1 h2 h3 h4 => (fun hx hb => lv_istore_n hx hb hd rfl (ev_has hL) hn rfl (fun ls' hl' => kk p e R s m args below meth c H locs cells slots ls' hC hR (ev_L_set (i := 2) (v := .int x) (ls := (v0 :: v1 :: v2 :: r)) hl' (fun w hw => ev_c1_of hp hw)) h1 h2 h3 h4)) hC.ex hC.cd
theorem ev_istore_3 {v0 v1 v2 v3 : Option Value} {x : Int32} (hd : ev_d M pc (.istore_n 3) 1 pc') (hn : 3 < M.2.2.1) (hp : ev_c1 v2 = true) (kk : Ev E M d pc' (v0 :: v1 :: v2 :: some (.int x) :: r) st h sz k n Q) : Ev E M d pc (v0 :: v1 :: v2 :: v3 :: r) (.int x :: st) h sz k n Q := by
  obtain ⟨hd, rfl⟩ := hd
  exact fun p e R s m args below meth c H locs cells slots lsr hC hR hL h1 h2 h3 h4 => (fun hx hb => lv_istore_n hx hb hd rfl (ev_has hL) hn rfl (fun ls' hl' => kk p e R s m args below meth c H locs cells slots ls' hC hR (ev_L_set (i := 3) (v := .int x) (ls := (v0 :: v1 :: v2 :: v3 :: r)) hl' (fun w hw => ev_c1_of hp hw)) h1 h2 h3 h4)) hC.ex hC.cd
theorem ev_istore_4 {v0 v1 v2 v3 v4 : Option Value} {x : Int32} (hd : ev_d M pc (.istore 4) 2 pc') (hn : 4 < M.2.2.1) (hp : ev_c1 v3 = true) (kk : Ev E M d pc' (v0 :: v1 :: v2 :: v3 :: some (.int x) :: r) st h sz k n Q) : Ev E M d pc (v0 :: v1 :: v2 :: v3 :: v4 :: r) (.int x :: st) h sz k n Q := by
  obtain ⟨hd, rfl⟩ := hd
  exact fun p e R s m args below meth c H locs cells slots lsr hC hR hL h1 h2 h3 h4 => (fun hx hb => lv_istore hx hb hd (ev_has hL) hn rfl (fun ls' hl' => kk p e R s m args below meth c H locs cells slots ls' hC hR (ev_L_set (i := 4) (v := .int x) (ls := (v0 :: v1 :: v2 :: v3 :: v4 :: r)) hl' (fun w hw => ev_c1_of hp hw)) h1 h2 h3 h4)) hC.ex hC.cd
theorem ev_istore_5 {v0 v1 v2 v3 v4 v5 : Option Value} {x : Int32} (hd : ev_d M pc (.istore 5) 2 pc') (hn : 5 < M.2.2.1) (hp : ev_c1 v4 = true) (kk : Ev E M d pc' (v0 :: v1 :: v2 :: v3 :: v4 :: some (.int x) :: r) st h sz k n Q) : Ev E M d pc (v0 :: v1 :: v2 :: v3 :: v4 :: v5 :: r) (.int x :: st) h sz k n Q := by
  obtain ⟨hd, rfl⟩ := hd
  exact fun p e R s m args below meth c H locs cells slots lsr hC hR hL h1 h2 h3 h4 => (fun hx hb => lv_istore hx hb hd (ev_has hL) hn rfl (fun ls' hl' => kk p e R s m args below meth c H locs cells slots ls' hC hR (ev_L_set (i := 5) (v := .int x) (ls := (v0 :: v1 :: v2 :: v3 :: v4 :: v5 :: r)) hl' (fun w hw => ev_c1_of hp hw)) h1 h2 h3 h4)) hC.ex hC.cd
theorem ev_istore_6 {v0 v1 v2 v3 v4 v5 v6 : Option Value} {x : Int32} (hd : ev_d M pc (.istore 6) 2 pc') (hn : 6 < M.2.2.1) (hp : ev_c1 v5 = true) (kk : Ev E M d pc' (v0 :: v1 :: v2 :: v3 :: v4 :: v5 :: some (.int x) :: r) st h sz k n Q) : Ev E M d pc (v0 :: v1 :: v2 :: v3 :: v4 :: v5 :: v6 :: r) (.int x :: st) h sz k n Q := by
  obtain ⟨hd, rfl⟩ := hd
  exact fun p e R s m args below meth c H locs cells slots lsr hC hR hL h1 h2 h3 h4 => (fun hx hb => lv_istore hx hb hd (ev_has hL) hn rfl (fun ls' hl' => kk p e R s m args below meth c H locs cells slots ls' hC hR (ev_L_set (i := 6) (v := .int x) (ls := (v0 :: v1 :: v2 :: v3 :: v4 :: v5 :: v6 :: r)) hl' (fun w hw => ev_c1_of hp hw)) h1 h2 h3 h4)) hC.ex hC.cd
theorem ev_istore_7 {v0 v1 v2 v3 v4 v5 v6 v7 : Option Value} {x : Int32} (hd : ev_d M pc (.istore 7) 2 pc') (hn : 7 < M.2.2.1) (hp : ev_c1 v6 = true) (kk : Ev E M d pc' (v0 :: v1 :: v2 :: v3 :: v4 :: v5 :: v6 :: some (.int x) :: r) st h sz k n Q) : Ev E M d pc (v0 :: v1 :: v2 :: v3 :: v4 :: v5 :: v6 :: v7 :: r) (.int x :: st) h sz k n Q := by
  obtain ⟨hd, rfl⟩ := hd
  exact fun p e R s m args below meth c H locs cells slots lsr hC hR hL h1 h2 h3 h4 => (fun hx hb => lv_istore hx hb hd (ev_has hL) hn rfl (fun ls' hl' => kk p e R s m args below meth c H locs cells slots ls' hC hR (ev_L_set (i := 7) (v := .int x) (ls := (v0 :: v1 :: v2 :: v3 :: v4 :: v5 :: v6 :: v7 :: r)) hl' (fun w hw => ev_c1_of hp hw)) h1 h2 h3 h4)) hC.ex hC.cd
theorem ev_istore_8 {v0 v1 v2 v3 v4 v5 v6 v7 v8 : Option Value} {x : Int32} (hd : ev_d M pc (.istore 8) 2 pc') (hn : 8 < M.2.2.1) (hp : ev_c1 v7 = true) (kk : Ev E M d pc' (v0 :: v1 :: v2 :: v3 :: v4 :: v5 :: v6 :: v7 :: some (.int x) :: r) st h sz k n Q) : Ev E M d pc (v0 :: v1 :: v2 :: v3 :: v4 :: v5 :: v6 :: v7 :: v8 :: r) (.int x :: st) h sz k n Q := by
  obtain ⟨hd, rfl⟩ := hd
  exact fun p e R s m args below meth c H locs cells slots lsr hC hR hL h1 h2 h3 h4 => (fun hx hb => lv_istore hx hb hd (ev_has hL) hn rfl (fun ls' hl' => kk p e R s m args below meth c H locs cells slots ls' hC hR (ev_L_set (i := 8) (v := .int x) (ls := (v0 :: v1 :: v2 :: v3 :: v4 :: v5 :: v6 :: v7 :: v8 :: r)) hl' (fun w hw => ev_c1_of hp hw)) h1 h2 h3 h4)) hC.ex hC.cd
theorem ev_istore_9 {v0 v1 v2 v3 v4 v5 v6 v7 v8 v9 : Option Value} {x : Int32} (hd : ev_d M pc (.istore 9) 2 pc') (hn : 9 < M.2.2.1) (hp : ev_c1 v8 = true) (kk : Ev E M d pc' (v0 :: v1 :: v2 :: v3 :: v4 :: v5 :: v6 :: v7 :: v8 :: some (.int x) :: r) st h sz k n Q) : Ev E M d pc (v0 :: v1 :: v2 :: v3 :: v4 :: v5 :: v6 :: v7 :: v8 :: v9 :: r) (.int x :: st) h sz k n Q := by
  obtain ⟨hd, rfl⟩ := hd
  exact fun p e R s m args below meth c H locs cells slots lsr hC hR hL h1 h2 h3 h4 => (fun hx hb => lv_istore hx hb hd (ev_has hL) hn rfl (fun ls' hl' => kk p e R s m args below meth c H locs cells slots ls' hC hR (ev_L_set (i := 9) (v := .int x) (ls := (v0 :: v1 :: v2 :: v3 :: v4 :: v5 :: v6 :: v7 :: v8 :: v9 :: r)) hl' (fun w hw => ev_c1_of hp hw)) h1 h2 h3 h4)) hC.ex hC.cd
theorem ev_istore_10 {v0 v1 v2 v3 v4 v5 v6 v7 v8 v9 v10 : Option Value} {x : Int32} (hd : ev_d M pc (.istore 10) 2 pc') (hn : 10 < M.2.2.1) (hp : ev_c1 v9 = true) (kk : Ev E M d pc' (v0 :: v1 :: v2 :: v3 :: v4 :: v5 :: v6 :: v7 :: v8 :: v9 :: some (.int x) :: r) st h sz k n Q) : Ev E M d pc (v0 :: v1 :: v2 :: v3 :: v4 :: v5 :: v6 :: v7 :: v8 :: v9 :: v10 :: r) (.int x :: st) h sz k n Q := by
  obtain ⟨hd, rfl⟩ := hd
  exact fun p e R s m args below meth c H locs cells slots lsr hC hR hL h1 h2 h3 h4 => (fun hx hb => lv_istore hx hb hd (ev_has hL) hn rfl (fun ls' hl' => kk p e R s m args below meth c H locs cells slots ls' hC hR (ev_L_set (i := 10) (v := .int x) (ls := (v0 :: v1 :: v2 :: v3 :: v4 :: v5 :: v6 :: v7 :: v8 :: v9 :: v10 :: r)) hl' (fun w hw => ev_c1_of hp hw)) h1 h2 h3 h4)) hC.ex hC.cd
theorem ev_istore_11 {v0 v1 v2 v3 v4 v5 v6 v7 v8 v9 v10 v11 : Option Value} {x : Int32} (hd : ev_d M pc (.istore 11) 2 pc') (hn : 11 < M.2.2.1) (hp : ev_c1 v10 = true) (kk : Ev E M d pc' (v0 :: v1 :: v2 :: v3 :: v4 :: v5 :: v6 :: v7 :: v8 :: v9 :: v10 :: some (.int x) :: r) st h sz k n Q) : Ev E M d pc (v0 :: v1 :: v2 :: v3 :: v4 :: v5 :: v6 :: v7 :: v8 :: v9 :: v10 :: v11 :: r) (.int x :: st) h sz k n Q := by
  obtain ⟨hd, rfl⟩ := hd
  exact fun p e R s m args below meth c H locs cells slots lsr hC hR hL h1 h2 h3 h4 => (fun hx hb => lv_istore hx hb hd (ev_has hL) hn rfl (fun ls' hl' => kk p e R s m args below meth c H locs cells slots ls' hC hR (ev_L_set (i := 11) (v := .int x) (ls := (v0 :: v1 :: v2 :: v3 :: v4 :: v5 :: v6 :: v7 :: v8 :: v9 :: v10 :: v11 :: r)) hl' (fun w hw => ev_c1_of hp hw)) h1 h2 h3 h4)) hC.ex hC.cd
theorem ev_istore_12 {v0 v1 v2 v3 v4 v5 v6 v7 v8 v9 v10 v11 v12 : Option Value} {x : Int32} (hd : ev_d M pc (.istore 12) 2 pc') (hn : 12 < M.2.2.1) (hp : ev_c1 v11 = true) (kk : Ev E M d pc' (v0 :: v1 :: v2 :: v3 :: v4 :: v5 :: v6 :: v7 :: v8 :: v9 :: v10 :: v11 :: some (.int x) :: r) st h sz k n Q) : Ev E M d pc (v0 :: v1 :: v2 :: v3 :: v4 :: v5 :: v6 :: v7 :: v8 :: v9 :: v10 :: v11 :: v12 :: r) (.int x :: st) h sz k n Q := by
  obtain ⟨hd, rfl⟩ := hd
  exact fun p e R s m args below meth c H locs cells slots lsr hC hR hL h1 h2 h3 h4 => (fun hx hb => lv_istore hx hb hd (ev_has hL) hn rfl (fun ls' hl' => kk p e R s m args below meth c H locs cells slots ls' hC hR (ev_L_set (i := 12) (v := .int x) (ls := (v0 :: v1 :: v2 :: v3 :: v4 :: v5 :: v6 :: v7 :: v8 :: v9 :: v10 :: v11 :: v12 :: r)) hl' (fun w hw => ev_c1_of hp hw)) h1 h2 h3 h4)) hC.ex hC.cd
theorem ev_istore_13 {v0 v1 v2 v3 v4 v5 v6 v7 v8 v9 v10 v11 v12 v13 : Option Value} {x : Int32} (hd : ev_d M pc (.istore 13) 2 pc') (hn : 13 < M.2.2.1) (hp : ev_c1 v12 = true) (kk : Ev E M d pc' (v0 :: v1 :: v2 :: v3 :: v4 :: v5 :: v6 :: v7 :: v8 :: v9 :: v10 :: v11 :: v12 :: some (.int x) :: r) st h sz k n Q) : Ev E M d pc (v0 :: v1 :: v2 :: v3 :: v4 :: v5 :: v6 :: v7 :: v8 :: v9 :: v10 :: v11 :: v12 :: v13 :: r) (.int x :: st) h sz k n Q := by
  obtain ⟨hd, rfl⟩ := hd
  exact fun p e R s m args below meth c H locs cells slots lsr hC hR hL h1 h2 h3 h4 => (fun hx hb => lv_istore hx hb hd (ev_has hL) hn rfl (fun ls' hl' => kk p e R s m args below meth c H locs cells slots ls' hC hR (ev_L_set (i := 13) (v := .int x) (ls := (v0 :: v1 :: v2 :: v3 :: v4 :: v5 :: v6 :: v7 :: v8 :: v9 :: v10 :: v11 :: v12 :: v13 :: r)) hl' (fun w hw => ev_c1_of hp hw)) h1 h2 h3 h4)) hC.ex hC.cd
theorem ev_astore_0 {v0 : Option Value} {x : Nat} (hd : ev_d M pc (.astore_n 0) 1 pc') (hn : 0 < M.2.2.1) (kk : Ev E M d pc' (some (.ref x) :: r) st h sz k n Q) : Ev E M d pc (v0 :: r) (.ref x :: st) h sz k n Q := by
  obtain ⟨hd, rfl⟩ := hd
  exact fun p e R s m args below meth c H locs cells slots lsr hC hR hL h1 h2 h3 h4 => (fun hx hb => lv_astore_n hx hb hd rfl (ev_has hL) hn rfl (fun ls' hl' => kk p e R s m args below meth c H locs cells slots ls' hC hR (ev_L_set (i := 0) (v := .ref x) (ls := (v0 :: r)) hl' (fun w hw => by cases hw)) h1 h2 h3 h4)) hC.ex hC.cd
theorem ev_astore_1 {v0 v1 : Option Value} {x : Nat} (hd : ev_d M pc (.astore_n 1) 1 pc') (hn : 1 < M.2.2.1) (hp : ev_c1 v0 = true) (kk : Ev E M d pc' (v0 :: some (.ref x) :: r) st h sz k n Q) : Ev E M d pc (v0 :: v1 :: r) (.ref x :: st) h sz k n Q := by
  obtain ⟨hd, rfl⟩ := hd
  exact fun p e R s m args below meth c H locs cells slots lsr hC hR hL h1 h2 h3 h4 => (fun hx hb => lv_astore_n hx hb hd rfl (ev_has hL) hn rfl (fun ls' hl' => kk p e R s m args below meth c H locs cells slots ls' hC hR (ev_L_set (i := 1) (v := .ref x) (ls := (v0 :: v1 :: r)) hl' (fun w hw => ev_c1_of hp hw)) h1 h2 h3 h4)) hC.ex hC.cd
theorem ev_astore_2 {v0 v1 v2 : Option Value} {x : Nat} (hd : ev_d M pc (.astore_n 2) 1 pc') (hn : 2 < M.2.2.1) (hp : ev_c1 v1 = true) (kk : Ev E M d pc' (v0 :: v1 :: some (.ref x) :: r) st h sz k n Q) : Ev E M d pc (v0 :: v1 :: v2 :: r) (.ref x :: st) h sz k n Q := by
  obtain ⟨hd, rfl⟩ := hd
  exact fun p e R s m args below meth c H locs cells slots lsr hC hR hL h1 h2 h3 h4 => (fun hx hb => lv_astore_n hx hb hd rfl (ev_has hL) hn rfl (fun ls' hl' => kk p e R s m args below meth c H locs cells slots ls' hC hR (ev_L_set (i := 2) (v := .ref x) (ls := (v0 :: v1 :: v2 :: r)) hl' (fun w hw => ev_c1_of hp hw)) h1 h2 h3 h4)) hC.ex hC.cd
theorem ev_astore_3 {v0 v1 v2 v3 : Option Value} {x : Nat} (hd : ev_d M pc (.astore_n 3) 1 pc') (hn : 3 < M.2.2.1) (hp : ev_c1 v2 = true) (kk : Ev E M d pc' (v0 :: v1 :: v2 :: some (.ref x) :: r) st h sz k n Q) : Ev E M d pc (v0 :: v1 :: v2 :: v3 :: r) (.ref x :: st) h sz k n Q := by
  obtain ⟨hd, rfl⟩ := hd
  exact fun p e R s m args below meth c H locs cells slots lsr hC hR hL h1 h2 h3 h4 => (fun hx hb => lv_astore_n hx hb hd rfl (ev_has hL) hn rfl (fun ls' hl' => kk p e R s m args below meth c H locs cells slots ls' hC hR (ev_L_set (i := 3) (v := .ref x) (ls := (v0 :: v1 :: v2 :: v3 :: r)) hl' (fun w hw => ev_c1_of hp hw)) h1 h2 h3 h4)) hC.ex hC.cd
theorem ev_astore_4 {v0 v1 v2 v3 v4 : Option Value} {x : Nat} (hd : ev_d M pc (.astore 4) 2 pc') (hn : 4 < M.2.2.1) (hp : ev_c1 v3 = true) (kk : Ev E M d pc' (v0 :: v1 :: v2 :: v3 :: some (.ref x) :: r) st h sz k n Q) : Ev E M d pc (v0 :: v1 :: v2 :: v3 :: v4 :: r) (.ref x :: st) h sz k n Q := by
  obtain ⟨hd, rfl⟩ := hd
  exact fun p e R s m args below meth c H locs cells slots lsr hC hR hL h1 h2 h3 h4 => (fun hx hb => lv_astore hx hb hd (ev_has hL) hn rfl (fun ls' hl' => kk p e R s m args below meth c H locs cells slots ls' hC hR (ev_L_set (i := 4) (v := .ref x) (ls := (v0 :: v1 :: v2 :: v3 :: v4 :: r)) hl' (fun w hw => ev_c1_of hp hw)) h1 h2 h3 h4)) hC.ex hC.cd
theorem ev_astore_5 {v0 v1 v2 v3 v4 v5 : Option Value} {x : Nat} (hd : ev_d M pc (.astore 5) 2 pc') (hn : 5 < M.2.2.1) (hp : ev_c1 v4 = true) (kk : Ev E M d pc' (v0 :: v1 :: v2 :: v3 :: v4 :: some (.ref x) :: r) st h sz k n Q) : Ev E M d pc (v0 :: v1 :: v2 :: v3 :: v4 :: v5 :: r) (.ref x :: st) h sz k n Q := by
  obtain ⟨hd, rfl⟩ := hd
  exact fun p e R s m args below meth c H locs cells slots lsr hC hR hL h1 h2 h3 h4 => (fun hx hb => lv_astore hx hb hd (ev_has hL) hn rfl (fun ls' hl' => kk p e R s m args below meth c H locs cells slots ls' hC hR (ev_L_set (i := 5) (v := .ref x) (ls := (v0 :: v1 :: v2 :: v3 :: v4 :: v5 :: r)) hl' (fun w hw => ev_c1_of hp hw)) h1 h2 h3 h4)) hC.ex hC.cd
theorem ev_astore_6 {v0 v1 v2 v3 v4 v5 v6 : Option Value} {x : Nat} (hd : ev_d M pc (.astore 6) 2 pc') (hn : 6 < M.2.2.1) (hp : ev_c1 v5 = true) (kk : Ev E M d pc' (v0 :: v1 :: v2 :: v3 :: v4 :: v5 :: some (.ref x) :: r) st h sz k n Q) : Ev E M d pc (v0 :: v1 :: v2 :: v3 :: v4 :: v5 :: v6 :: r) (.ref x :: st) h sz k n Q := by
  obtain ⟨hd, rfl⟩ := hd
  exact fun p e R s m args below meth c H locs cells slots lsr hC hR hL h1 h2 h3 h4 => (fun hx hb => lv_astore hx hb hd (ev_has hL) hn rfl (fun ls' hl' => kk p e R s m args below meth c H locs cells slots ls' hC hR (ev_L_set (i := 6) (v := .ref x) (ls := (v0 :: v1 :: v2 :: v3 :: v4 :: v5 :: v6 :: r)) hl' (fun w hw => ev_c1_of hp hw)) h1 h2 h3 h4)) hC.ex hC.cd
theorem ev_astore_7 {v0 v1 v2 v3 v4 v5 v6 v7 : Option Value} {x : Nat} (hd : ev_d M pc (.astore 7) 2 pc') (hn : 7 < M.2.2.1) (hp : ev_c1 v6 = true) (kk : Ev E M d pc' (v0 :: v1 :: v2 :: v3 :: v4 :: v5 :: v6 :: some (.ref x) :: r) st h sz k n Q) : Ev E M d pc (v0 :: v1 :: v2 :: v3 :: v4 :: v5 :: v6 :: v7 :: r) (.ref x :: st) h sz k n Q := by
  obtain ⟨hd, rfl⟩ := hd
  exact fun p e R s m args below meth c H locs cells slots lsr hC hR hL h1 h2 h3 h4 => (fun hx hb => lv_astore hx hb hd (ev_has hL) hn rfl (fun ls' hl' => kk p e R s m args below meth c H locs cells slots ls' hC hR (ev_L_set (i := 7) (v := .ref x) (ls := (v0 :: v1 :: v2 :: v3 :: v4 :: v5 :: v6 :: v7 :: r)) hl' (fun w hw => ev_c1_of hp hw)) h1 h2 h3 h4)) hC.ex hC.cd
theorem ev_astore_8 {v0 v1 v2 v3 v4 v5 v6 v7 v8 : Option Value} {x : Nat} (hd : ev_d M pc (.astore 8) 2 pc') (hn : 8 < M.2.2.1) (hp : ev_c1 v7 = true) (kk : Ev E M d pc' (v0 :: v1 :: v2 :: v3 :: v4 :: v5 :: v6 :: v7 :: some (.ref x) :: r) st h sz k n Q) : Ev E M d pc (v0 :: v1 :: v2 :: v3 :: v4 :: v5 :: v6 :: v7 :: v8 :: r) (.ref x :: st) h sz k n Q := by
  obtain ⟨hd, rfl⟩ := hd
  exact fun p e R s m args below meth c H locs cells slots lsr hC hR hL h1 h2 h3 h4 => (fun hx hb => lv_astore hx hb hd (ev_has hL) hn rfl (fun ls' hl' => kk p e R s m args below meth c H locs cells slots ls' hC hR (ev_L_set (i := 8) (v := .ref x) (ls := (v0 :: v1 :: v2 :: v3 :: v4 :: v5 :: v6 :: v7 :: v8 :: r)) hl' (fun w hw => ev_c1_of hp hw)) h1 h2 h3 h4)) hC.ex hC.cd
theorem ev_astore_9 {v0 v1 v2 v3 v4 v5 v6 v7 v8 v9 : Option Value} {x : Nat} (hd : ev_d M pc (.astore 9) 2 pc') (hn : 9 < M.2.2.1) (hp : ev_c1 v8 = true) (kk : Ev E M d pc' (v0 :: v1 :: v2 :: v3 :: v4 :: v5 :: v6 :: v7 :: v8 :: some (.ref x) :: r) st h sz k n Q) : Ev E M d pc (v0 :: v1 :: v2 :: v3 :: v4 :: v5 :: v6 :: v7 :: v8 :: v9 :: r) (.ref x :: st) h sz k n Q := by
  obtain ⟨hd, rfl⟩ := hd
  exact fun p e R s m args below meth c H locs cells slots lsr hC hR hL h1 h2 h3 h4 => (fun hx hb => lv_astore hx hb hd (ev_has hL) hn rfl (fun ls' hl' => kk p e R s m args below meth c H locs cells slots ls' hC hR (ev_L_set (i := 9) (v := .ref x) (ls := (v0 :: v1 :: v2 :: v3 :: v4 :: v5 :: v6 :: v7 :: v8 :: v9 :: r)) hl' (fun w hw => ev_c1_of hp hw)) h1 h2 h3 h4)) hC.ex hC.cd
theorem ev_astore_10 {v0 v1 v2 v3 v4 v5 v6 v7 v8 v9 v10 : Option Value} {x : Nat} (hd : ev_d M pc (.astore 10) 2 pc') (hn : 10 < M.2.2.1) (hp : ev_c1 v9 = true) (kk : Ev E M d pc' (v0 :: v1 :: v2 :: v3 :: v4 :: v5 :: v6 :: v7 :: v8 :: v9 :: some (.ref x) :: r) st h sz k n Q) : Ev E M d pc (v0 :: v1 :: v2 :: v3 :: v4 :: v5 :: v6 :: v7 :: v8 :: v9 :: v10 :: r) (.ref x :: st) h sz k n Q := by
  obtain ⟨hd, rfl⟩ := hd
  exact fun p e R s m args below meth c H locs cells slots lsr hC hR hL h1 h2 h3 h4 => (fun hx hb => lv_astore hx hb hd (ev_has hL) hn rfl (fun ls' hl' => kk p e R s m args below meth c H locs cells slots ls' hC hR (ev_L_set (i := 10) (v := .ref x) (ls := (v0 :: v1 :: v2 :: v3 :: v4 :: v5 :: v6 :: v7 :: v8 :: v9 :: v10 :: r)) hl' (fun w hw => ev_c1_of hp hw)) h1 h2 h3 h4)) hC.ex hC.cd
theorem ev_astore_11 {v0 v1 v2 v3 v4 v5 v6 v7 v8 v9 v10 v11 : Option Value} {x : Nat} (hd : ev_d M pc (.astore 11) 2 pc') (hn : 11 < M.2.2.1) (hp : ev_c1 v10 = true) (kk : Ev E M d pc' (v0 :: v1 :: v2 :: v3 :: v4 :: v5 :: v6 :: v7 :: v8 :: v9 :: v10 :: some (.ref x) :: r) st h sz k n Q) : Ev E M d pc (v0 :: v1 :: v2 :: v3 :: v4 :: v5 :: v6 :: v7 :: v8 :: v9 :: v10 :: v11 :: r) (.ref x :: st) h sz k n Q := by
  obtain ⟨hd, rfl⟩ := hd
  exact fun p e R s m args below meth c H locs cells slots lsr hC hR hL h1 h2 h3 h4 => (fun hx hb => lv_astore hx hb hd (ev_has hL) hn rfl (fun ls' hl' => kk p e R s m args below meth c H locs cells slots ls' hC hR (ev_L_set (i := 11) (v := .ref x) (ls := (v0 :: v1 :: v2 :: v3 :: v4 :: v5 :: v6 :: v7 :: v8 :: v9 :: v10 :: v11 :: r)) hl' (fun w hw => ev_c1_of hp hw)) h1 h2 h3 h4)) hC.ex hC.cd
theorem ev_astore_12 {v0 v1 v2 v3 v4 v5 v6 v7 v8 v9 v10 v11 v12 : Option Value} {x : Nat} (hd : ev_d M pc (.astore 12) 2 pc') (hn : 12 < M.2.2.1) (hp : ev_c1 v11 = true) (kk : Ev E M d pc' (v0 :: v1 :: v2 :: v3 :: v4 :: v5 :: v6 :: v7 :: v8 :: v9 :: v10 :: v11 :: some (.ref x) :: r) st h sz k n Q) : Ev E M d pc (v0 :: v1 :: v2 :: v3 :: v4 :: v5 :: v6 :: v7 :: v8 :: v9 :: v10 :: v11 :: v12 :: r) (.ref x :: st) h sz k n Q := by
  obtain ⟨hd, rfl⟩ := hd
  exact fun p e R s m args below meth c H locs cells slots lsr hC hR hL h1 h2 h3 h4 => (fun hx hb => lv_astore hx hb hd (ev_has hL) hn rfl (fun ls' hl' => kk p e R s m args below meth c H locs cells slots ls' hC hR (ev_L_set (i := 12) (v := .ref x) (ls := (v0 :: v1 :: v2 :: v3 :: v4 :: v5 :: v6 :: v7 :: v8 :: v9 :: v10 :: v11 :: v12 :: r)) hl' (fun w hw => ev_c1_of hp hw)) h1 h2 h3 h4)) hC.ex hC.cd
theorem ev_astore_13 {v0 v1 v2 v3 v4 v5 v6 v7 v8 v9 v10 v11 v12 v13 : Option Value} {x : Nat} (hd : ev_d M pc (.astore 13) 2 pc') (hn : 13 < M.2.2.1) (hp : ev_c1 v12 = true) (kk : Ev E M d pc' (v0 :: v1 :: v2 :: v3 :: v4 :: v5 :: v6 :: v7 :: v8 :: v9 :: v10 :: v11 :: v12 :: some (.ref x) :: r) st h sz k n Q) : Ev E M d pc (v0 :: v1 :: v2 :: v3 :: v4 :: v5 :: v6 :: v7 :: v8 :: v9 :: v10 :: v11 :: v12 :: v13 :: r) (.ref x :: st) h sz k n Q := by
  obtain ⟨hd, rfl⟩ := hd
  exact fun p e R s m args below meth c H locs cells slots lsr hC hR hL h1 h2 h3 h4 => (fun hx hb => lv_astore hx hb hd (ev_has hL) hn rfl (fun ls' hl' => kk p e R s m args below meth c H locs cells slots ls' hC hR (ev_L_set (i := 13) (v := .ref x) (ls := (v0 :: v1 :: v2 :: v3 :: v4 :: v5 :: v6 :: v7 :: v8 :: v9 :: v10 :: v11 :: v12 :: v13 :: r)) hl' (fun w hw => ev_c1_of hp hw)) h1 h2 h3 h4)) hC.ex hC.cd
theorem ev_lstore_0 {v0 v1 : Option Value} {x : Int64} (hd : ev_d M pc (.lstore_n 0) 1 pc') (hn : 0 + 1 < M.2.2.1) (kk : Ev E M d pc' (some (.long x) :: none :: r) st h sz k n Q) : Ev E M d pc (v0 :: v1 :: r) (.long x :: st) h sz k n Q := by
  obtain ⟨hd, rfl⟩ := hd
  exact fun p e R s m args below meth c H locs cells slots lsr hC hR hL h1 h2 h3 h4 => (fun hx hb => lv_lstore_n hx hb hd rfl (ev_has hL) hn rfl (fun ls' hl' => kk p e R s m args below meth c H locs cells slots ls' hC hR (ev_L_gen2 (i := 0) (v := .long x) (ls := (v0 :: v1 :: r)) hl' (fun w hw => by cases hw)) h1 h2 h3 h4)) hC.ex hC.cd
theorem ev_lstore_1 {v0 v1 v2 : Option Value} {x : Int64} (hd : ev_d M pc (.lstore_n 1) 1 pc') (hn : 1 + 1 < M.2.2.1) (hp : ev_c1 v0 = true) (kk : Ev E M d pc' (v0 :: some (.long x) :: none :: r) st h sz k n Q) : Ev E M d pc (v0 :: v1 :: v2 :: r) (.long x :: st) h sz k n Q := by
  obtain ⟨hd, rfl⟩ := hd
  exact fun p e R s m args below meth c H locs cells slots lsr hC hR hL h1 h2 h3 h4 => (fun hx hb => lv_lstore_n hx hb hd rfl (ev_has hL) hn rfl (fun ls' hl' => kk p e R s m args below meth c H locs cells slots ls' hC hR (ev_L_gen2 (i := 1) (v := .long x) (ls := (v0 :: v1 :: v2 :: r)) hl' (fun w hw => ev_c1_of hp hw)) h1 h2 h3 h4)) hC.ex hC.cd
theorem ev_lstore_2 {v0 v1 v2 v3 : Option Value} {x : Int64} (hd : ev_d M pc (.lstore_n 2) 1 pc') (hn : 2 + 1 < M.2.2.1) (hp : ev_c1 v1 = true) (kk : Ev E M d pc' (v0 :: v1 :: some (.long x) :: none :: r) st h sz k n Q) : Ev E M d pc (v0 :: v1 :: v2 :: v3 :: r) (.long x :: st) h sz k n Q := by
  obtain ⟨hd, rfl⟩ := hd
  exact fun p e R s m args below meth c H locs cells slots lsr hC hR hL h1 h2 h3 h4 => (fun hx hb => lv_lstore_n hx hb hd rfl (ev_has hL) hn rfl (fun ls' hl' => kk p e R s m args below meth c H locs cells slots ls' hC hR (ev_L_gen2 (i := 2) (v := .long x) (ls := (v0 :: v1 :: v2 :: v3 :: r)) hl' (fun w hw => ev_c1_of hp hw)) h1 h2 h3 h4)) hC.ex hC.cd
theorem ev_lstore_3 {v0 v1 v2 v3 v4 : Option Value} {x : Int64} (hd : ev_d M pc (.lstore_n 3) 1 pc') (hn : 3 + 1 < M.2.2.1) (hp : ev_c1 v2 = true) (kk : Ev E M d pc' (v0 :: v1 :: v2 :: some (.long x) :: none :: r) st h sz k n Q) : Ev E M d pc (v0 :: v1 :: v2 :: v3 :: v4 :: r) (.long x :: st) h sz k n Q := by
  obtain ⟨hd, rfl⟩ := hd
  exact fun p e R s m args below meth c H locs cells slots lsr hC hR hL h1 h2 h3 h4 => (fun hx hb => lv_lstore_n hx hb hd rfl (ev_has hL) hn rfl (fun ls' hl' => kk p e R s m args below meth c H locs cells slots ls' hC hR (ev_L_gen2 (i := 3) (v := .long x) (ls := (v0 :: v1 :: v2 :: v3 :: v4 :: r)) hl' (fun w hw => ev_c1_of hp hw)) h1 h2 h3 h4)) hC.ex hC.cd
theorem ev_lstore_4 {v0 v1 v2 v3 v4 v5 : Option Value} {x : Int64} (hd : ev_d M pc (.lstore 4) 2 pc') (hn : 4 + 1 < M.2.2.1) (hp : ev_c1 v3 = true) (kk : Ev E M d pc' (v0 :: v1 :: v2 :: v3 :: some (.long x) :: none :: r) st h sz k n Q) : Ev E M d pc (v0 :: v1 :: v2 :: v3 :: v4 :: v5 :: r) (.long x :: st) h sz k n Q := by
  obtain ⟨hd, rfl⟩ := hd
  exact fun p e R s m args below meth c H locs cells slots lsr hC hR hL h1 h2 h3 h4 => (fun hx hb => lv_lstore hx hb hd (ev_has hL) hn rfl (fun ls' hl' => kk p e R s m args below meth c H locs cells slots ls' hC hR (ev_L_gen2 (i := 4) (v := .long x) (ls := (v0 :: v1 :: v2 :: v3 :: v4 :: v5 :: r)) hl' (fun w hw => ev_c1_of hp hw)) h1 h2 h3 h4)) hC.ex hC.cd
theorem ev_lstore_5 {v0 v1 v2 v3 v4 v5 v6 : Option Value} {x : Int64} (hd : ev_d M pc (.lstore 5) 2 pc') (hn : 5 + 1 < M.2.2.1) (hp : ev_c1 v4 = true) (kk : Ev E M d pc' (v0 :: v1 :: v2 :: v3 :: v4 :: some (.long x) :: none :: r) st h sz k n Q) : Ev E M d pc (v0 :: v1 :: v2 :: v3 :: v4 :: v5 :: v6 :: r) (.long x :: st) h sz k n Q := by
  obtain ⟨hd, rfl⟩ := hd
  exact fun p e R s m args below meth c H locs cells slots lsr hC hR hL h1 h2 h3 h4 => (fun hx hb => lv_lstore hx hb hd (ev_has hL) hn rfl (fun ls' hl' => kk p e R s m args below meth c H locs cells slots ls' hC hR (ev_L_gen2 (i := 5) (v := .long x) (ls := (v0 :: v1 :: v2 :: v3 :: v4 :: v5 :: v6 :: r)) hl' (fun w hw => ev_c1_of hp hw)) h1 h2 h3 h4)) hC.ex hC.cd
theorem ev_lstore_6 {v0 v1 v2 v3 v4 v5 v6 v7 : Option Value} {x : Int64} (hd : ev_d M pc (.lstore 6) 2 pc') (hn : 6 + 1 < M.2.2.1) (hp : ev_c1 v5 = true) (kk : Ev E M d pc' (v0 :: v1 :: v2 :: v3 :: v4 :: v5 :: some (.long x) :: none :: r) st h sz k n Q) : Ev E M d pc (v0 :: v1 :: v2 :: v3 :: v4 :: v5 :: v6 :: v7 :: r) (.long x :: st) h sz k n Q := by
  obtain ⟨hd, rfl⟩ := hd
  exact fun p e R s m args below meth c H locs cells slots lsr hC hR hL h1 h2 h3 h4 => (fun hx hb => lv_lstore hx hb hd (ev_has hL) hn rfl (fun ls' hl' => kk p e R s m args below meth c H locs cells slots ls' hC hR (ev_L_gen2 (i := 6) (v := .long x) (ls := (v0 :: v1 :: v2 :: v3 :: v4 :: v5 :: v6 :: v7 :: r)) hl' (fun w hw => ev_c1_of hp hw)) h1 h2 h3 h4)) hC.ex hC.cd
theorem ev_iinc_0 {x y : Int32} {j : Int} (hd : ev_d M pc (.iinc 0 j) 3 pc') (hv : x + Int32.ofInt j = y) (hn : 0 < M.2.2.1) (kk : Ev E M d pc' (some (.int y) :: r) st h sz k n Q) : Ev E M d pc (some (.int x) :: r) st h sz k n Q := by
  obtain ⟨hd, rfl⟩ := hd
  exact fun p e R s m args below meth c H locs cells slots lsr hC hR hL h1 h2 h3 h4 => (fun hx hb => lv_iinc hx hb hd (ev_has1 (hL.2.2 0 _ rfl) hL) (k := 0) rfl hv hn rfl (fun ls' hl' => kk p e R s m args below meth c H locs cells slots ls' hC hR (ev_L_set1 (i := 0) (v := .int y) (ls := (some (.int x) :: r)) hl' (fun w hw => by cases hw)) h1 h2 h3 h4)) hC.ex hC.cd
theorem ev_inc1_0 {i : Nat} (hd : ev_d M pc (.iinc 0 1) 3 pc') (hn : 0 < M.2.2.1) (kk : Ev E M d pc' (some (.int (nI (i + 1))) :: r) st h sz k n Q) : Ev E M d pc (some (.int (nI i)) :: r) st h sz k n Q := ev_iinc_0 hd (nI_1 i) hn  kk
theorem ev_iinc_1 {v0 : Option Value} {x y : Int32} {j : Int} (hd : ev_d M pc (.iinc 1 j) 3 pc') (hv : x + Int32.ofInt j = y) (hn : 1 < M.2.2.1) (hp : ev_c1 v0 = true) (kk : Ev E M d pc' (v0 :: some (.int y) :: r) st h sz k n Q) : Ev E M d pc (v0 :: some (.int x) :: r) st h sz k n Q := by
  obtain ⟨hd, rfl⟩ := hd
  exact fun p e R s m args below meth c H locs cells slots lsr hC hR hL h1 h2 h3 h4 => (fun hx hb => lv_iinc hx hb hd (ev_has1 (hL.2.2 1 _ rfl) hL) (k := 0) rfl hv hn rfl (fun ls' hl' => kk p e R s m args below meth c H locs cells slots ls' hC hR (ev_L_set1 (i := 1) (v := .int y) (ls := (v0 :: some (.int x) :: r)) hl' (fun w hw => ev_c1_of hp hw)) h1 h2 h3 h4)) hC.ex hC.cd
theorem ev_inc1_1 {v0 : Option Value} {i : Nat} (hd : ev_d M pc (.iinc 1 1) 3 pc') (hn : 1 < M.2.2.1) (hp : ev_c1 v0 = true) (kk : Ev E M d pc' (v0 :: some (.int (nI (i + 1))) :: r) st h sz k n Q) : Ev E M d pc (v0 :: some (.int (nI i)) :: r) st h sz k n Q := ev_iinc_1 hd (nI_1 i) hn hp kk
theorem ev_iinc_2 {v0 v1 : Option Value} {x y : Int32} {j : Int} (hd : ev_d M pc (.iinc 2 j) 3 pc') (hv : x + Int32.ofInt j = y) (hn : 2 < M.2.2.1) (hp : ev_c1 v1 = true) (kk : Ev E M d pc' (v0 :: v1 :: some (.int y) :: r) st h sz k n Q) : Ev E M d pc (v0 :: v1 :: some (.int x) :: r) st h sz k n Q := by
  obtain ⟨hd, rfl⟩ := hd
  exact fun p e R s m args below meth c H locs cells slots lsr hC hR hL h1 h2 h3 h4 => (fun hx hb => lv_iinc hx hb hd (ev_has1 (hL.2.2 2 _ rfl) hL) (k := 0) rfl hv hn rfl (fun ls' hl' => kk p e R s m args below meth c H locs cells slots ls' hC hR (ev_L_set1 (i := 2) (v := .int y) (ls := (v0 :: v1 :: some (.int x) :: r)) hl' (fun w hw => ev_c1_of hp hw)) h1 h2 h3 h4)) hC.ex hC.cd
theorem ev_inc1_2 {v0 v1 : Option Value} {i : Nat} (hd : ev_d M pc (.iinc 2 1) 3 pc') (hn : 2 < M.2.2.1) (hp : ev_c1 v1 = true) (kk : Ev E M d pc' (v0 :: v1 :: some (.int (nI (i + 1))) :: r) st h sz k n Q) : Ev E M d pc (v0 :: v1 :: some (.int (nI i)) :: r) st h sz k n Q := ev_iinc_2 hd (nI_1 i) hn hp kk
theorem ev_iinc_3 {v0 v1 v2 : Option Value} {x y : Int32} {j : Int} (hd : ev_d M pc (.iinc 3 j) 3 pc') (hv : x + Int32.ofInt j = y) (hn : 3 < M.2.2.1) (hp : ev_c1 v2 = true) (kk : Ev E M d pc' (v0 :: v1 :: v2 :: some (.int y) :: r) st h sz k n Q) : Ev E M d pc (v0 :: v1 :: v2 :: some (.int x) :: r) st h sz k n Q := by
  obtain ⟨hd, rfl⟩ := hd
  exact fun p e R s m args below meth c H locs cells slots lsr hC hR hL h1 h2 h3 h4 => (fun hx hb => lv_iinc hx hb hd (ev_has1 (hL.2.2 3 _ rfl) hL) (k := 0) rfl hv hn rfl (fun ls' hl' => kk p e R s m args below meth c H locs cells slots ls' hC hR (ev_L_set1 (i := 3) (v := .int y) (ls := (v0 :: v1 :: v2 :: some (.int x) :: r)) hl' (fun w hw => ev_c1_of hp hw)) h1 h2 h3 h4)) hC.ex hC.cd
theorem ev_inc1_3 {v0 v1 v2 : Option Value} {i : Nat} (hd : ev_d M pc (.iinc 3 1) 3 pc') (hn : 3 < M.2.2.1) (hp : ev_c1 v2 = true) (kk : Ev E M d pc' (v0 :: v1 :: v2 :: some (.int (nI (i + 1))) :: r) st h sz k n Q) : Ev E M d pc (v0 :: v1 :: v2 :: some (.int (nI i)) :: r) st h sz k n Q := ev_iinc_3 hd (nI_1 i) hn hp kk
theorem ev_iinc_4 {v0 v1 v2 v3 : Option Value} {x y : Int32} {j : Int} (hd : ev_d M pc (.iinc 4 j) 3 pc') (hv : x + Int32.ofInt j = y) (hn : 4 < M.2.2.1) (hp : ev_c1 v3 = true) (kk : Ev E M d pc' (v0 :: v1 :: v2 :: v3 :: some (.int y) :: r) st h sz k n Q) : Ev E M d pc (v0 :: v1 :: v2 :: v3 :: some (.int x) :: r) st h sz k n Q := by
  obtain ⟨hd, rfl⟩ := hd
  exact fun p e R s m args below meth c H locs cells slots lsr hC hR hL h1 h2 h3 h4 => (fun hx hb => lv_iinc hx hb hd (ev_has1 (hL.2.2 4 _ rfl) hL) (k := 0) rfl hv hn rfl (fun ls' hl' => kk p e R s m args below meth c H locs cells slots ls' hC hR (ev_L_set1 (i := 4) (v := .int y) (ls := (v0 :: v1 :: v2 :: v3 :: some (.int x) :: r)) hl' (fun w hw => ev_c1_of hp hw)) h1 h2 h3 h4)) hC.ex hC.cd
theorem ev_inc1_4 {v0 v1 v2 v3 : Option Value} {i : Nat} (hd : ev_d M pc (.iinc 4 1) 3 pc') (hn : 4 < M.2.2.1) (hp : ev_c1 v3 = true) (kk : Ev E M d pc' (v0 :: v1 :: v2 :: v3 :: some (.int (nI (i + 1))) :: r) st h sz k n Q) : Ev E M d pc (v0 :: v1 :: v2 :: v3 :: some (.int (nI i)) :: r) st h sz k n Q := ev_iinc_4 hd (nI_1 i) hn hp kk
theorem ev_iinc_5 {v0 v1 v2 v3 v4 : Option Value} {x y : Int32} {j : Int} (hd : ev_d M pc (.iinc 5 j) 3 pc') (hv : x + Int32.ofInt j = y) (hn : 5 < M.2.2.1) (hp : ev_c1 v4 = true) (kk : Ev E M d pc' (v0 :: v1 :: v2 :: v3 :: v4 :: some (.int y) :: r) st h sz k n Q) : Ev E M d pc (v0 :: v1 :: v2 :: v3 :: v4 :: some (.int x) :: r) st h sz k n Q := by
  obtain ⟨hd, rfl⟩ := hd
  exact fun p e R s m args below meth c H locs cells slots lsr hC hR hL h1 h2 h3 h4 => (fun hx hb => lv_iinc hx hb hd (ev_has1 (hL.2.2 5 _ rfl) hL) (k := 0) rfl hv hn rfl (fun ls' hl' => kk p e R s m args below meth c H locs cells slots ls' hC hR (ev_L_set1 (i := 5) (v := .int y) (ls := (v0 :: v1 :: v2 :: v3 :: v4 :: some (.int x) :: r)) hl' (fun w hw => ev_c1_of hp hw)) h1 h2 h3 h4)) hC.ex hC.cd
theorem ev_inc1_5 {v0 v1 v2 v3 v4 : Option Value} {i : Nat} (hd : ev_d M pc (.iinc 5 1) 3 pc') (hn : 5 < M.2.2.1) (hp : ev_c1 v4 = true) (kk : Ev E M d pc' (v0 :: v1 :: v2 :: v3 :: v4 :: some (.int (nI (i + 1))) :: r) st h sz k n Q) : Ev E M d pc (v0 :: v1 :: v2 :: v3 :: v4 :: some (.int (nI i)) :: r) st h sz k n Q := ev_iinc_5 hd (nI_1 i) hn hp kk
theorem ev_iinc_6 {v0 v1 v2 v3 v4 v5 : Option Value} {x y : Int32} {j : Int} (hd : ev_d M pc (.iinc 6 j) 3 pc') (hv : x + Int32.ofInt j = y) (hn : 6 < M.2.2.1) (hp : ev_c1 v5 = true) (kk : Ev E M d pc' (v0 :: v1 :: v2 :: v3 :: v4 :: v5 :: some (.int y) :: r) st h sz k n Q) : Ev E M d pc (v0 :: v1 :: v2 :: v3 :: v4 :: v5 :: some (.int x) :: r) st h sz k n Q := by
  obtain ⟨hd, rfl⟩ := hd
  exact fun p e R s m args below meth c H locs cells slots lsr hC hR hL h1 h2 h3 h4 => (fun hx hb => lv_iinc hx hb hd (ev_has1 (hL.2.2 6 _ rfl) hL) (k := 0) rfl hv hn rfl (fun ls' hl' => kk p e R s m args below meth c H locs cells slots ls' hC hR (ev_L_set1 (i := 6) (v := .int y) (ls := (v0 :: v1 :: v2 :: v3 :: v4 :: v5 :: some (.int x) :: r)) hl' (fun w hw => ev_c1_of hp hw)) h1 h2 h3 h4)) hC.ex hC.cd
theorem ev_inc1_6 {v0 v1 v2 v3 v4 v5 : Option Value} {i : Nat} (hd : ev_d M pc (.iinc 6 1) 3 pc') (hn : 6 < M.2.2.1) (hp : ev_c1 v5 = true) (kk : Ev E M d pc' (v0 :: v1 :: v2 :: v3 :: v4 :: v5 :: some (.int (nI (i + 1))) :: r) st h sz k n Q) : Ev E M d pc (v0 :: v1 :: v2 :: v3 :: v4 :: v5 :: some (.int (nI i)) :: r) st h sz k n Q := ev_iinc_6 hd (nI_1 i) hn hp kk
theorem ev_iinc_7 {v0 v1 v2 v3 v4 v5 v6 : Option Value} {x y : Int32} {j : Int} (hd : ev_d M pc (.iinc 7 j) 3 pc') (hv : x + Int32.ofInt j = y) (hn : 7 < M.2.2.1) (hp : ev_c1 v6 = true) (kk : Ev E M d pc' (v0 :: v1 :: v2 :: v3 :: v4 :: v5 :: v6 :: some (.int y) :: r) st h sz k n Q) : Ev E M d pc (v0 :: v1 :: v2 :: v3 :: v4 :: v5 :: v6 :: some (.int x) :: r) st h sz k n Q := by
  obtain ⟨hd, rfl⟩ := hd
  exact fun p e R s m args below meth c H locs cells slots lsr hC hR hL h1 h2 h3 h4 => (fun hx hb => lv_iinc hx hb hd (ev_has1 (hL.2.2 7 _ rfl) hL) (k := 0) rfl hv hn rfl (fun ls' hl' => kk p e R s m args below meth c H locs cells slots ls' hC hR (ev_L_set1 (i := 7) (v := .int y) (ls := (v0 :: v1 :: v2 :: v3 :: v4 :: v5 :: v6 :: some (.int x) :: r)) hl' (fun w hw => ev_c1_of hp hw)) h1 h2 h3 h4)) hC.ex hC.cd
theorem ev_inc1_7 {v0 v1 v2 v3 v4 v5 v6 : Option Value} {i : Nat} (hd : ev_d M pc (.iinc 7 1) 3 pc') (hn : 7 < M.2.2.1) (hp : ev_c1 v6 = true) (kk : Ev E M d pc' (v0 :: v1 :: v2 :: v3 :: v4 :: v5 :: v6 :: some (.int (nI (i + 1))) :: r) st h sz k n Q) : Ev E M d pc (v0 :: v1 :: v2 :: v3 :: v4 :: v5 :: v6 :: some (.int (nI i)) :: r) st h sz k n Q := ev_iinc_7 hd (nI_1 i) hn hp kk
theorem ev_iinc_8 {v0 v1 v2 v3 v4 v5 v6 v7 : Option Value} {x y : Int32} {j : Int} (hd : ev_d M pc (.iinc 8 j) 3 pc') (hv : x + Int32.ofInt j = y) (hn : 8 < M.2.2.1) (hp : ev_c1 v7 = true) (kk : Ev E M d pc' (v0 :: v1 :: v2 :: v3 :: v4 :: v5 :: v6 :: v7 :: some (.int y) :: r) st h sz k n Q) : Ev E M d pc (v0 :: v1 :: v2 :: v3 :: v4 :: v5 :: v6 :: v7 :: some (.int x) :: r) st h sz k n Q := by
  obtain ⟨hd, rfl⟩ := hd
  exact fun p e R s m args below meth c H locs cells slots lsr hC hR hL h1 h2 h3 h4 => (fun hx hb => lv_iinc hx hb hd (ev_has1 (hL.2.2 8 _ rfl) hL) (k := 0) rfl hv hn rfl (fun ls' hl' => kk p e R s m args below meth c H locs cells slots ls' hC hR (ev_L_set1 (i := 8) (v := .int y) (ls := (v0 :: v1 :: v2 :: v3 :: v4 :: v5 :: v6 :: v7 :: some (.int x) :: r)) hl' (fun w hw => ev_c1_of hp hw)) h1 h2 h3 h4)) hC.ex hC.cd
theorem ev_inc1_8 {v0 v1 v2 v3 v4 v5 v6 v7 : Option Value} {i : Nat} (hd : ev_d M pc (.iinc 8 1) 3 pc') (hn : 8 < M.2.2.1) (hp : ev_c1 v7 = true) (kk : Ev E M d pc' (v0 :: v1 :: v2 :: v3 :: v4 :: v5 :: v6 :: v7 :: some (.int (nI (i + 1))) :: r) st h sz k n Q) : Ev E M d pc (v0 :: v1 :: v2 :: v3 :: v4 :: v5 :: v6 :: v7 :: some (.int (nI i)) :: r) st h sz k n Q := ev_iinc_8 hd (nI_1 i) hn hp kk
theorem ev_iinc_9 {v0 v1 v2 v3 v4 v5 v6 v7 v8 : Option Value} {x y : Int32} {j : Int} (hd : ev_d M pc (.iinc 9 j) 3 pc') (hv : x + Int32.ofInt j = y) (hn : 9 < M.2.2.1) (hp : ev_c1 v8 = true) (kk : Ev E M d pc' (v0 :: v1 :: v2 :: v3 :: v4 :: v5 :: v6 :: v7 :: v8 :: some (.int y) :: r) st h sz k n Q) : Ev E M d pc (v0 :: v1 :: v2 :: v3 :: v4 :: v5 :: v6 :: v7 :: v8 :: some (.int x) :: r) st h sz k n Q := by
  obtain ⟨hd, rfl⟩ := hd
  exact fun p e R s m args below meth c H locs cells slots lsr hC hR hL h1 h2 h3 h4 => (fun hx hb => lv_iinc hx hb hd (ev_has1 (hL.2.2 9 _ rfl) hL) (k := 0) rfl hv hn rfl (fun ls' hl' => kk p e R s m args below meth c H locs cells slots ls' hC hR (ev_L_set1 (i := 9) (v := .int y) (ls := (v0 :: v1 :: v2 :: v3 :: v4 :: v5 :: v6 :: v7 :: v8 :: some (.int x) :: r)) hl' (fun w hw => ev_c1_of hp hw)) h1 h2 h3 h4)) hC.ex hC.cd
theorem ev_inc1_9 {v0 v1 v2 v3 v4 v5 v6 v7 v8 : Option Value} {i : Nat} (hd : ev_d M pc (.iinc 9 1) 3 pc') (hn : 9 < M.2.2.1) (hp : ev_c1 v8 = true) (kk : Ev E M d pc' (v0 :: v1 :: v2 :: v3 :: v4 :: v5 :: v6 :: v7 :: v8 :: some (.int (nI (i + 1))) :: r) st h sz k n Q) : Ev E M d pc (v0 :: v1 :: v2 :: v3 :: v4 :: v5 :: v6 :: v7 :: v8 :: some (.int (nI i)) :: r) st h sz k n Q := ev_iinc_9 hd (nI_1 i) hn hp kk
theorem ev_iinc_10 {v0 v1 v2 v3 v4 v5 v6 v7 v8 v9 : Option Value} {x y : Int32} {j : Int} (hd : ev_d M pc (.iinc 10 j) 3 pc') (hv : x + Int32.ofInt j = y) (hn : 10 < M.2.2.1) (hp : ev_c1 v9 = true) (kk : Ev E M d pc' (v0 :: v1 :: v2 :: v3 :: v4 :: v5 :: v6 :: v7 :: v8 :: v9 :: some (.int y) :: r) st h sz k n Q) : Ev E M d pc (v0 :: v1 :: v2 :: v3 :: v4 :: v5 :: v6 :: v7 :: v8 :: v9 :: some (.int x) :: r) st h sz k n Q := by
  obtain ⟨hd, rfl⟩ := hd
  exact fun p e R s m args below meth c H locs cells slots lsr hC hR hL h1 h2 h3 h4 => (fun hx hb => lv_iinc hx hb hd (ev_has1 (hL.2.2 10 _ rfl) hL) (k := 0) rfl hv hn rfl (fun ls' hl' => kk p e R s m args below meth c H locs cells slots ls' hC hR (ev_L_set1 (i := 10) (v := .int y) (ls := (v0 :: v1 :: v2 :: v3 :: v4 :: v5 :: v6 :: v7 :: v8 :: v9 :: some (.int x) :: r)) hl' (fun w hw => ev_c1_of hp hw)) h1 h2 h3 h4)) hC.ex hC.cd
theorem ev_inc1_10 {v0 v1 v2 v3 v4 v5 v6 v7 v8 v9 : Option Value} {i : Nat} (hd : ev_d M pc (.iinc 10 1) 3 pc') (hn : 10 < M.2.2.1) (hp : ev_c1 v9 = true) (kk : Ev E M d pc' (v0 :: v1 :: v2 :: v3 :: v4 :: v5 :: v6 :: v7 :: v8 :: v9 :: some (.int (nI (i + 1))) :: r) st h sz k n Q) : Ev E M d pc (v0 :: v1 :: v2 :: v3 :: v4 :: v5 :: v6 :: v7 :: v8 :: v9 :: some (.int (nI i)) :: r) st h sz k n Q := ev_iinc_10 hd (nI_1 i) hn hp kk
theorem ev_iinc_11 {v0 v1 v2 v3 v4 v5 v6 v7 v8 v9 v10 : Option Value} {x y : Int32} {j : Int} (hd : ev_d M pc (.iinc 11 j) 3 pc') (hv : x + Int32.ofInt j = y) (hn : 11 < M.2.2.1) (hp : ev_c1 v10 = true) (kk : Ev E M d pc' (v0 :: v1 :: v2 :: v3 :: v4 :: v5 :: v6 :: v7 :: v8 :: v9 :: v10 :: some (.int y) :: r) st h sz k n Q) : Ev E M d pc (v0 :: v1 :: v2 :: v3 :: v4 :: v5 :: v6 :: v7 :: v8 :: v9 :: v10 :: some (.int x) :: r) st h sz k n Q := by
  obtain ⟨hd, rfl⟩ := hd
  exact fun p e R s m args below meth c H locs cells slots lsr hC hR hL h1 h2 h3 h4 => (fun hx hb => lv_iinc hx hb hd (ev_has1 (hL.2.2 11 _ rfl) hL) (k := 0) rfl hv hn rfl (fun ls' hl' => kk p e R s m args below meth c H locs cells slots ls' hC hR (ev_L_set1 (i := 11) (v := .int y) (ls := (v0 :: v1 :: v2 :: v3 :: v4 :: v5 :: v6 :: v7 :: v8 :: v9 :: v10 :: some (.int x) :: r)) hl' (fun w hw => ev_c1_of hp hw)) h1 h2 h3 h4)) hC.ex hC.cd
theorem ev_inc1_11 {v0 v1 v2 v3 v4 v5 v6 v7 v8 v9 v10 : Option Value} {i : Nat} (hd : ev_d M pc (.iinc 11 1) 3 pc') (hn : 11 < M.2.2.1) (hp : ev_c1 v10 = true) (kk : Ev E M d pc' (v0 :: v1 :: v2 :: v3 :: v4 :: v5 :: v6 :: v7 :: v8 :: v9 :: v10 :: some (.int (nI (i + 1))) :: r) st h sz k n Q) : Ev E M d pc (v0 :: v1 :: v2 :: v3 :: v4 :: v5 :: v6 :: v7 :: v8 :: v9 :: v10 :: some (.int (nI i)) :: r) st h sz k n Q := ev_iinc_11 hd (nI_1 i) hn hp kk
theorem ev_iinc_12 {v0 v1 v2 v3 v4 v5 v6 v7 v8 v9 v10 v11 : Option Value} {x y : Int32} {j : Int} (hd : ev_d M pc (.iinc 12 j) 3 pc') (hv : x + Int32.ofInt j = y) (hn : 12 < M.2.2.1) (hp : ev_c1 v11 = true) (kk : Ev E M d pc' (v0 :: v1 :: v2 :: v3 :: v4 :: v5 :: v6 :: v7 :: v8 :: v9 :: v10 :: v11 :: some (.int y) :: r) st h sz k n Q) : Ev E M d pc (v0 :: v1 :: v2 :: v3 :: v4 :: v5 :: v6 :: v7 :: v8 :: v9 :: v10 :: v11 :: some (.int x) :: r) st h sz k n Q := by
  obtain ⟨hd, rfl⟩ := hd
  exact fun p e R s m args below meth c H locs cells slots lsr hC hR hL h1 h2 h3 h4 => (fun hx hb => lv_iinc hx hb hd (ev_has1 (hL.2.2 12 _ rfl) hL) (k := 0) rfl hv hn rfl (fun ls' hl' => kk p e R s m args below meth c H locs cells slots ls' hC hR (ev_L_set1 (i := 12) (v := .int y) (ls := (v0 :: v1 :: v2 :: v3 :: v4 :: v5 :: v6 :: v7 :: v8 :: v9 :: v10 :: v11 :: some (.int x) :: r)) hl' (fun w hw => ev_c1_of hp hw)) h1 h2 h3 h4)) hC.ex hC.cd
theorem ev_inc1_12 {v0 v1 v2 v3 v4 v5 v6 v7 v8 v9 v10 v11 : Option Value} {i : Nat} (hd : ev_d M pc (.iinc 12 1) 3 pc') (hn : 12 < M.2.2.1) (hp : ev_c1 v11 = true) (kk : Ev E M d pc' (v0 :: v1 :: v2 :: v3 :: v4 :: v5 :: v6 :: v7 :: v8 :: v9 :: v10 :: v11 :: some (.int (nI (i + 1))) :: r) st h sz k n Q) : Ev E M d pc (v0 :: v1 :: v2 :: v3 :: v4 :: v5 :: v6 :: v7 :: v8 :: v9 :: v10 :: v11 :: some (.int (nI i)) :: r) st h sz k n Q := ev_iinc_12 hd (nI_1 i) hn hp kk
theorem ev_iinc_13 {v0 v1 v2 v3 v4 v5 v6 v7 v8 v9 v10 v11 v12 : Option Value} {x y : Int32} {j : Int} (hd : ev_d M pc (.iinc 13 j) 3 pc') (hv : x + Int32.ofInt j = y) (hn : 13 < M.2.2.1) (hp : ev_c1 v12 = true) (kk : Ev E M d pc' (v0 :: v1 :: v2 :: v3 :: v4 :: v5 :: v6 :: v7 :: v8 :: v9 :: v10 :: v11 :: v12 :: some (.int y) :: r) st h sz k n Q) : Ev E M d pc (v0 :: v1 :: v2 :: v3 :: v4 :: v5 :: v6 :: v7 :: v8 :: v9 :: v10 :: v11 :: v12 :: some (.int x) :: r) st h sz k n Q := by
  obtain ⟨hd, rfl⟩ := hd
  exact fun p e R s m args below meth c H locs cells slots lsr hC hR hL h1 h2 h3 h4 => (fun hx hb => lv_iinc hx hb hd (ev_has1 (hL.2.2 13 _ rfl) hL) (k := 0) rfl hv hn rfl (fun ls' hl' => kk p e R s m args below meth c H locs cells slots ls' hC hR (ev_L_set1 (i := 13) (v := .int y) (ls := (v0 :: v1 :: v2 :: v3 :: v4 :: v5 :: v6 :: v7 :: v8 :: v9 :: v10 :: v11 :: v12 :: some (.int x) :: r)) hl' (fun w hw => ev_c1_of hp hw)) h1 h2 h3 h4)) hC.ex hC.cd
theorem ev_inc1_13 {v0 v1 v2 v3 v4 v5 v6 v7 v8 v9 v10 v11 v12 : Option Value} {i : Nat} (hd : ev_d M pc (.iinc 13 1) 3 pc') (hn : 13 < M.2.2.1) (hp : ev_c1 v12 = true) (kk : Ev E M d pc' (v0 :: v1 :: v2 :: v3 :: v4 :: v5 :: v6 :: v7 :: v8 :: v9 :: v10 :: v11 :: v12 :: some (.int (nI (i + 1))) :: r) st h sz k n Q) : Ev E M d pc (v0 :: v1 :: v2 :: v3 :: v4 :: v5 :: v6 :: v7 :: v8 :: v9 :: v10 :: v11 :: v12 :: some (.int (nI i)) :: r) st h sz k n Q := ev_iinc_13 hd (nI_1 i) hn hp kk
theorem ev_iconst {j : Int} {v : Int32} (hd : ev_d M pc (.iconst j) 1 pc') (hv : Int32.ofInt j = v) (kk : Ev E M d pc' ls (.int v :: st) h sz k n Q) : Ev E M d pc ls st h sz k n Q := by
  obtain ⟨hd, rfl⟩ := hd
  exact ev_pure (fun hx hb hL kw => lv_iconst hx hb hd hv kw) kk
theorem ev_ic0 (hd : ev_d M pc (.iconst 0) 1 pc') (kk : Ev E M d pc' ls (.int (nI 0) :: st) h sz k n Q) : Ev E M d pc ls st h sz k n Q := by
  obtain ⟨hd, rfl⟩ := hd
  exact ev_pure (fun hx hb hL kw => lv_iconst hx hb hd (by decide +kernel) kw) kk
theorem ev_ic1 (hd : ev_d M pc (.iconst 1) 1 pc') (kk : Ev E M d pc' ls (.int (nI 1) :: st) h sz k n Q) : Ev E M d pc ls st h sz k n Q := by
  obtain ⟨hd, rfl⟩ := hd
  exact ev_pure (fun hx hb hL kw => lv_iconst hx hb hd (by decide +kernel) kw) kk
theorem ev_ic2 (hd : ev_d M pc (.iconst 2) 1 pc') (kk : Ev E M d pc' ls (.int (nI 2) :: st) h sz k n Q) : Ev E M d pc ls st h sz k n Q := by
  obtain ⟨hd, rfl⟩ := hd
  exact ev_pure (fun hx hb hL kw => lv_iconst hx hb hd (by decide +kernel) kw) kk
theorem ev_ic3 (hd : ev_d M pc (.iconst 3) 1 pc') (kk : Ev E M d pc' ls (.int (nI 3) :: st) h sz k n Q) : Ev E M d pc ls st h sz k n Q := by
  obtain ⟨hd, rfl⟩ := hd
  exact ev_pure (fun hx hb hL kw => lv_iconst hx hb hd (by decide +kernel) kw) kk
theorem ev_ic4 (hd : ev_d M pc (.iconst 4) 1 pc') (kk : Ev E M d pc' ls (.int (nI 4) :: st) h sz k n Q) : Ev E M d pc ls st h sz k n Q := by
  obtain ⟨hd, rfl⟩ := hd
  exact ev_pure (fun hx hb hL kw => lv_iconst hx hb hd (by decide +kernel) kw) kk
theorem ev_ic5 (hd : ev_d M pc (.iconst 5) 1 pc') (kk : Ev E M d pc' ls (.int (nI 5) :: st) h sz k n Q) : Ev E M d pc ls st h sz k n Q := by
  obtain ⟨hd, rfl⟩ := hd
  exact ev_pure (fun hx hb hL kw => lv_iconst hx hb hd (by decide +kernel) kw) kk
theorem ev_icm (hd : ev_d M pc (.iconst (-1)) 1 pc') (kk : Ev E M d pc' ls (.int (-1) :: st) h sz k n Q) : Ev E M d pc ls st h sz k n Q := by
  obtain ⟨hd, rfl⟩ := hd
  exact ev_pure (fun hx hb hL kw => lv_iconst hx hb hd (by decide +kernel) kw) kk
theorem ev_bipush {j : Int} {c : Nat} (hd : ev_d M pc (.bipush j) 2 pc') (hv : (Int8.ofInt j).toInt32 = nI c) (kk : Ev E M d pc' ls (.int (nI c) :: st) h sz k n Q) : Ev E M d pc ls st h sz k n Q := by
  obtain ⟨hd, rfl⟩ := hd
  exact ev_pure (fun hx hb hL kw => lv_bipush hx hb hd hv kw) kk
theorem ev_sipush {j : Int} {c : Nat} (hd : ev_d M pc (.sipush j) 3 pc') (hv : (Int16.ofInt j).toInt32 = nI c) (kk : Ev E M d pc' ls (.int (nI c) :: st) h sz k n Q) : Ev E M d pc ls st h sz k n Q := by
  obtain ⟨hd, rfl⟩ := hd
  exact ev_pure (fun hx hb hL kw => lv_sipush hx hb hd hv kw) kk
theorem ev_lconst {j : Fin 2} {v : Int64} (hd : ev_d M pc (.lconst j) 1 pc') (hv : Int64.ofNat (j : Nat) = v) (kk : Ev E M d pc' ls (.long v :: st) h sz k n Q) : Ev E M d pc ls st h sz k n Q := by
  obtain ⟨hd, rfl⟩ := hd
  exact ev_pure (fun hx hb hL kw => lv_lconst hx hb hd hv kw) kk
theorem ev_null (hd : ev_d M pc .aconst_null 1 pc') (kk : Ev E M d pc' ls (.null :: st) h sz k n Q) : Ev E M d pc ls st h sz k n Q := by
  obtain ⟨hd, rfl⟩ := hd
  exact ev_pure (fun hx hb hL kw => lv_null hx hb hd kw) kk
theorem ev_iadd {x y z : Int32} (hd : ev_d M pc .iadd 1 pc') (hz : x + y = z) (kk : Ev E M d pc' ls (.int z :: st) h sz k n Q) : Ev E M d pc ls (.int y :: .int x :: st) h sz k n Q := by
  obtain ⟨hd, rfl⟩ := hd
  subst hz
  exact ev_pure (fun hx hb _ kw => lv_iadd hx hb hd kw) kk
theorem ev_isub {x y z : Int32} (hd : ev_d M pc .isub 1 pc') (hz : x - y = z) (kk : Ev E M d pc' ls (.int z :: st) h sz k n Q) : Ev E M d pc ls (.int y :: .int x :: st) h sz k n Q := by
  obtain ⟨hd, rfl⟩ := hd
  subst hz
  exact ev_pure (fun hx hb _ kw => lv_isub hx hb hd kw) kk
theorem ev_imul {x y z : Int32} (hd : ev_d M pc .imul 1 pc') (hz : x * y = z) (kk : Ev E M d pc' ls (.int z :: st) h sz k n Q) : Ev E M d pc ls (.int y :: .int x :: st) h sz k n Q := by
  obtain ⟨hd, rfl⟩ := hd
  subst hz
  exact ev_pure (fun hx hb _ kw => lv_imul hx hb hd kw) kk
theorem ev_iand {x y z : Int32} (hd : ev_d M pc .iand 1 pc') (hz : x &&& y = z) (kk : Ev E M d pc' ls (.int z :: st) h sz k n Q) : Ev E M d pc ls (.int y :: .int x :: st) h sz k n Q := by
  obtain ⟨hd, rfl⟩ := hd
  subst hz
  exact ev_pure (fun hx hb _ kw => lv_iand hx hb hd kw) kk
theorem ev_ior {x y z : Int32} (hd : ev_d M pc .ior 1 pc') (hz : x ||| y = z) (kk : Ev E M d pc' ls (.int z :: st) h sz k n Q) : Ev E M d pc ls (.int y :: .int x :: st) h sz k n Q := by
  obtain ⟨hd, rfl⟩ := hd
  subst hz
  exact ev_pure (fun hx hb _ kw => lv_ior hx hb hd kw) kk
theorem ev_ixor {x y z : Int32} (hd : ev_d M pc .ixor 1 pc') (hz : x ^^^ y = z) (kk : Ev E M d pc' ls (.int z :: st) h sz k n Q) : Ev E M d pc ls (.int y :: .int x :: st) h sz k n Q := by
  obtain ⟨hd, rfl⟩ := hd
  subst hz
  exact ev_pure (fun hx hb _ kw => lv_ixor hx hb hd kw) kk
theorem ev_ishl {x y z : Int32} (hd : ev_d M pc .ishl 1 pc') (hz : x <<< (y &&& 31) = z) (kk : Ev E M d pc' ls (.int z :: st) h sz k n Q) : Ev E M d pc ls (.int y :: .int x :: st) h sz k n Q := by
  obtain ⟨hd, rfl⟩ := hd
  subst hz
  exact ev_pure (fun hx hb _ kw => lv_ishl hx hb hd kw) kk
theorem ev_ishr {x y z : Int32} (hd : ev_d M pc .ishr 1 pc') (hz : x >>> (y &&& 31) = z) (kk : Ev E M d pc' ls (.int z :: st) h sz k n Q) : Ev E M d pc ls (.int y :: .int x :: st) h sz k n Q := by
  obtain ⟨hd, rfl⟩ := hd
  subst hz
  exact ev_pure (fun hx hb _ kw => lv_ishr hx hb hd kw) kk
theorem ev_lsub {x y z : Int64} (hd : ev_d M pc .lsub 1 pc') (hz : x - y = z) (kk : Ev E M d pc' ls (.long z :: st) h sz k n Q) : Ev E M d pc ls (.long y :: .long x :: st) h sz k n Q := by
  obtain ⟨hd, rfl⟩ := hd
  subst hz
  exact ev_pure (fun hx hb _ kw => lv_lsub hx hb hd kw) kk
theorem ev_addn {x y : Nat} (hd : ev_d M pc .iadd 1 pc') (kk : Ev E M d pc' ls (.int (nI (x + y)) :: st) h sz k n Q) : Ev E M d pc ls (.int (nI y) :: .int (nI x) :: st) h sz k n Q := ev_iadd hd (nI_add x y) kk
theorem ev_i2l {x : Int32} {v : Int64} (hd : ev_d M pc .i2l 1 pc') (hv : x.toInt64 = v) (kk : Ev E M d pc' ls (.long v :: st) h sz k n Q) : Ev E M d pc ls (.int x :: st) h sz k n Q := by
  obtain ⟨hd, rfl⟩ := hd
  exact ev_pure (fun hx hb hL kw => lv_i2l hx hb hd hv kw) kk
theorem ev_dup {a : Value} (hd : ev_d M pc .dup 1 pc') (ha : a.category = 1) (kk : Ev E M d pc' ls (a :: a :: st) h sz k n Q) : Ev E M d pc ls (a :: st) h sz k n Q := by
  obtain ⟨hd, rfl⟩ := hd
  exact ev_pure (fun hx hb hL kw => lv_dup hx hb hd ha kw) kk
theorem ev_pop {a : Value} (hd : ev_d M pc .pop 1 pc') (ha : a.category = 1) (kk : Ev E M d pc' ls st h sz k n Q) : Ev E M d pc ls (a :: st) h sz k n Q := by
  obtain ⟨hd, rfl⟩ := hd
  exact ev_pure (fun hx hb hL kw => lv_pop hx hb hd ha kw) kk
theorem ev_dup2 {a b : Value} (hd : ev_d M pc .dup2 1 pc') (ha : a.category = 1) (hb' : b.category = 1) (kk : Ev E M d pc' ls (a :: b :: a :: b :: st) h sz k n Q) : Ev E M d pc ls (a :: b :: st) h sz k n Q := by
  obtain ⟨hd, rfl⟩ := hd
  exact ev_pure (fun hx hb hL kw => lv_dup2_11 hx hb hd ha hb' kw) kk
theorem ev_dup_x1 {a b : Value} (hd : ev_d M pc .dup_x1 1 pc') (ha : a.category = 1) (hb' : b.category = 1) (kk : Ev E M d pc' ls (a :: b :: a :: st) h sz k n Q) : Ev E M d pc ls (a :: b :: st) h sz k n Q := by
  obtain ⟨hd, rfl⟩ := hd
  exact ev_pure (fun hx hb hL kw => lv_dup_x1 hx hb hd ha hb' kw) kk
theorem ev_goto {off : Int} {tgt : Nat} (hd : ev_d M pc (.goto off) 3 pc') (ht : (pc : Int) + off = (tgt : Int)) (kk : Ev E M d tgt ls st h sz k n Q) : Ev E M d pc ls st h sz k n Q := ev_pure (fun hx hb _ kw => lv_goto hx hb hd.1 ht kw) kk
theorem ev_if_eq {x : Int32} {off : Int} {tgt : Nat} (hd : ev_d M pc (.ifCond .eq off) 3 pc') (ht : (pc : Int) + off = (tgt : Int)) (kt : x = 0 → Ev E M d tgt ls st h sz k n Q) (kf : ¬ (x = 0) → Ev E M d pc' ls st h sz k n Q) : Ev E M d pc ls (.int x :: st) h sz k n Q := by
  obtain ⟨hd, rfl⟩ := hd
  exact ev_br (fun hx hb a b => lv_if_eq hx hb hd ht a b) kt kf
theorem ev_if_eqT {x : Int32} {off : Int} {tgt : Nat} (hd : ev_d M pc (.ifCond .eq off) 3 pc') (ht : (pc : Int) + off = (tgt : Int)) (hp : x = 0) (kt : Ev E M d tgt ls st h sz k n Q) : Ev E M d pc ls (.int x :: st) h sz k n Q := ev_if_eq hd ht (fun _ => kt) (fun q => absurd hp q)
theorem ev_if_eqF {x : Int32} {off : Int} {tgt : Nat} (hd : ev_d M pc (.ifCond .eq off) 3 pc') (ht : (pc : Int) + off = (tgt : Int)) (hp : ¬ (x = 0)) (kf : Ev E M d pc' ls st h sz k n Q) : Ev E M d pc ls (.int x :: st) h sz k n Q := ev_if_eq hd ht (fun q => absurd q hp) (fun _ => kf)
theorem ev_icmp_eq {x y : Int32} {off : Int} {tgt : Nat} (hd : ev_d M pc (.if_icmp .eq off) 3 pc') (ht : (pc : Int) + off = (tgt : Int)) (kt : x = y → Ev E M d tgt ls st h sz k n Q) (kf : ¬ (x = y) → Ev E M d pc' ls st h sz k n Q) : Ev E M d pc ls (.int y :: .int x :: st) h sz k n Q := by
  obtain ⟨hd, rfl⟩ := hd
  exact ev_br (fun hx hb a b => lv_icmp_eq hx hb hd ht a b) kt kf
theorem ev_icmp_eqT {x y : Int32} {off : Int} {tgt : Nat} (hd : ev_d M pc (.if_icmp .eq off) 3 pc') (ht : (pc : Int) + off = (tgt : Int)) (hp : x = y) (kt : Ev E M d tgt ls st h sz k n Q) : Ev E M d pc ls (.int y :: .int x :: st) h sz k n Q := ev_icmp_eq hd ht (fun _ => kt) (fun q => absurd hp q)
theorem ev_icmp_eqF {x y : Int32} {off : Int} {tgt : Nat} (hd : ev_d M pc (.if_icmp .eq off) 3 pc') (ht : (pc : Int) + off = (tgt : Int)) (hp : ¬ (x = y)) (kf : Ev E M d pc' ls st h sz k n Q) : Ev E M d pc ls (.int y :: .int x :: st) h sz k n Q := ev_icmp_eq hd ht (fun q => absurd q hp) (fun _ => kf)
theorem ev_if_ne {x : Int32} {off : Int} {tgt : Nat} (hd : ev_d M pc (.ifCond .ne off) 3 pc') (ht : (pc : Int) + off = (tgt : Int)) (kt : ¬ x = 0 → Ev E M d tgt ls st h sz k n Q) (kf : x = 0 → Ev E M d pc' ls st h sz k n Q) : Ev E M d pc ls (.int x :: st) h sz k n Q := by
  obtain ⟨hd, rfl⟩ := hd
  exact ev_br (fun hx hb a b => lv_if_ne hx hb hd ht a (fun q => b (fun z => z q))) kt (fun q => kf (Classical.not_not.mp q))
theorem ev_if_neT {x : Int32} {off : Int} {tgt : Nat} (hd : ev_d M pc (.ifCond .ne off) 3 pc') (ht : (pc : Int) + off = (tgt : Int)) (hp : ¬ x = 0) (kt : Ev E M d tgt ls st h sz k n Q) : Ev E M d pc ls (.int x :: st) h sz k n Q := ev_if_ne hd ht (fun _ => kt) (fun q => absurd q hp)
theorem ev_if_neF {x : Int32} {off : Int} {tgt : Nat} (hd : ev_d M pc (.ifCond .ne off) 3 pc') (ht : (pc : Int) + off = (tgt : Int)) (hp : x = 0) (kf : Ev E M d pc' ls st h sz k n Q) : Ev E M d pc ls (.int x :: st) h sz k n Q := ev_if_ne hd ht (fun q => absurd hp q) (fun _ => kf)
theorem ev_icmp_ne {x y : Int32} {off : Int} {tgt : Nat} (hd : ev_d M pc (.if_icmp .ne off) 3 pc') (ht : (pc : Int) + off = (tgt : Int)) (kt : ¬ x = y → Ev E M d tgt ls st h sz k n Q) (kf : x = y → Ev E M d pc' ls st h sz k n Q) : Ev E M d pc ls (.int y :: .int x :: st) h sz k n Q := by
  obtain ⟨hd, rfl⟩ := hd
  exact ev_br (fun hx hb a b => lv_icmp_ne hx hb hd ht a (fun q => b (fun z => z q))) kt (fun q => kf (Classical.not_not.mp q))
theorem ev_icmp_neT {x y : Int32} {off : Int} {tgt : Nat} (hd : ev_d M pc (.if_icmp .ne off) 3 pc') (ht : (pc : Int) + off = (tgt : Int)) (hp : ¬ x = y) (kt : Ev E M d tgt ls st h sz k n Q) : Ev E M d pc ls (.int y :: .int x :: st) h sz k n Q := ev_icmp_ne hd ht (fun _ => kt) (fun q => absurd q hp)
theorem ev_icmp_neF {x y : Int32} {off : Int} {tgt : Nat} (hd : ev_d M pc (.if_icmp .ne off) 3 pc') (ht : (pc : Int) + off = (tgt : Int)) (hp : x = y) (kf : Ev E M d pc' ls st h sz k n Q) : Ev E M d pc ls (.int y :: .int x :: st) h sz k n Q := ev_icmp_ne hd ht (fun q => absurd hp q) (fun _ => kf)
theorem ev_if_lt {x : Int32} {off : Int} {tgt : Nat} (hd : ev_d M pc (.ifCond .lt off) 3 pc') (ht : (pc : Int) + off = (tgt : Int)) (kt : x < 0 → Ev E M d tgt ls st h sz k n Q) (kf : ¬ (x < 0) → Ev E M d pc' ls st h sz k n Q) : Ev E M d pc ls (.int x :: st) h sz k n Q := by
  obtain ⟨hd, rfl⟩ := hd
  exact ev_br (fun hx hb a b => lv_if_lt hx hb hd ht a b) kt kf
theorem ev_if_ltT {x : Int32} {off : Int} {tgt : Nat} (hd : ev_d M pc (.ifCond .lt off) 3 pc') (ht : (pc : Int) + off = (tgt : Int)) (hp : x < 0) (kt : Ev E M d tgt ls st h sz k n Q) : Ev E M d pc ls (.int x :: st) h sz k n Q := ev_if_lt hd ht (fun _ => kt) (fun q => absurd hp q)
theorem ev_if_ltF {x : Int32} {off : Int} {tgt : Nat} (hd : ev_d M pc (.ifCond .lt off) 3 pc') (ht : (pc : Int) + off = (tgt : Int)) (hp : ¬ (x < 0)) (kf : Ev E M d pc' ls st h sz k n Q) : Ev E M d pc ls (.int x :: st) h sz k n Q := ev_if_lt hd ht (fun q => absurd q hp) (fun _ => kf)
theorem ev_icmp_lt {x y : Int32} {off : Int} {tgt : Nat} (hd : ev_d M pc (.if_icmp .lt off) 3 pc') (ht : (pc : Int) + off = (tgt : Int)) (kt : x < y → Ev E M d tgt ls st h sz k n Q) (kf : ¬ (x < y) → Ev E M d pc' ls st h sz k n Q) : Ev E M d pc ls (.int y :: .int x :: st) h sz k n Q := by
  obtain ⟨hd, rfl⟩ := hd
  exact ev_br (fun hx hb a b => lv_icmp_lt hx hb hd ht a b) kt kf
theorem ev_icmp_ltT {x y : Int32} {off : Int} {tgt : Nat} (hd : ev_d M pc (.if_icmp .lt off) 3 pc') (ht : (pc : Int) + off = (tgt : Int)) (hp : x < y) (kt : Ev E M d tgt ls st h sz k n Q) : Ev E M d pc ls (.int y :: .int x :: st) h sz k n Q := ev_icmp_lt hd ht (fun _ => kt) (fun q => absurd hp q)
theorem ev_icmp_ltF {x y : Int32} {off : Int} {tgt : Nat} (hd : ev_d M pc (.if_icmp .lt off) 3 pc') (ht : (pc : Int) + off = (tgt : Int)) (hp : ¬ (x < y)) (kf : Ev E M d pc' ls st h sz k n Q) : Ev E M d pc ls (.int y :: .int x :: st) h sz k n Q := ev_icmp_lt hd ht (fun q => absurd q hp) (fun _ => kf)
theorem ev_if_ge {x : Int32} {off : Int} {tgt : Nat} (hd : ev_d M pc (.ifCond .ge off) 3 pc') (ht : (pc : Int) + off = (tgt : Int)) (kt : 0 ≤ x → Ev E M d tgt ls st h sz k n Q) (kf : ¬ (0 ≤ x) → Ev E M d pc' ls st h sz k n Q) : Ev E M d pc ls (.int x :: st) h sz k n Q := by
  obtain ⟨hd, rfl⟩ := hd
  exact ev_br (fun hx hb a b => lv_if_ge hx hb hd ht a b) kt kf
theorem ev_if_geT {x : Int32} {off : Int} {tgt : Nat} (hd : ev_d M pc (.ifCond .ge off) 3 pc') (ht : (pc : Int) + off = (tgt : Int)) (hp : 0 ≤ x) (kt : Ev E M d tgt ls st h sz k n Q) : Ev E M d pc ls (.int x :: st) h sz k n Q := ev_if_ge hd ht (fun _ => kt) (fun q => absurd hp q)
theorem ev_if_geF {x : Int32} {off : Int} {tgt : Nat} (hd : ev_d M pc (.ifCond .ge off) 3 pc') (ht : (pc : Int) + off = (tgt : Int)) (hp : ¬ (0 ≤ x)) (kf : Ev E M d pc' ls st h sz k n Q) : Ev E M d pc ls (.int x :: st) h sz k n Q := ev_if_ge hd ht (fun q => absurd q hp) (fun _ => kf)
theorem ev_icmp_ge {x y : Int32} {off : Int} {tgt : Nat} (hd : ev_d M pc (.if_icmp .ge off) 3 pc') (ht : (pc : Int) + off = (tgt : Int)) (kt : y ≤ x → Ev E M d tgt ls st h sz k n Q) (kf : ¬ (y ≤ x) → Ev E M d pc' ls st h sz k n Q) : Ev E M d pc ls (.int y :: .int x :: st) h sz k n Q := by
  obtain ⟨hd, rfl⟩ := hd
  exact ev_br (fun hx hb a b => lv_icmp_ge hx hb hd ht a b) kt kf
theorem ev_icmp_geT {x y : Int32} {off : Int} {tgt : Nat} (hd : ev_d M pc (.if_icmp .ge off) 3 pc') (ht : (pc : Int) + off = (tgt : Int)) (hp : y ≤ x) (kt : Ev E M d tgt ls st h sz k n Q) : Ev E M d pc ls (.int y :: .int x :: st) h sz k n Q := ev_icmp_ge hd ht (fun _ => kt) (fun q => absurd hp q)
theorem ev_icmp_geF {x y : Int32} {off : Int} {tgt : Nat} (hd : ev_d M pc (.if_icmp .ge off) 3 pc') (ht : (pc : Int) + off = (tgt : Int)) (hp : ¬ (y ≤ x)) (kf : Ev E M d pc' ls st h sz k n Q) : Ev E M d pc ls (.int y :: .int x :: st) h sz k n Q := ev_icmp_ge hd ht (fun q => absurd q hp) (fun _ => kf)
theorem ev_if_gt {x : Int32} {off : Int} {tgt : Nat} (hd : ev_d M pc (.ifCond .gt off) 3 pc') (ht : (pc : Int) + off = (tgt : Int)) (kt : 0 < x → Ev E M d tgt ls st h sz k n Q) (kf : ¬ (0 < x) → Ev E M d pc' ls st h sz k n Q) : Ev E M d pc ls (.int x :: st) h sz k n Q := by
  obtain ⟨hd, rfl⟩ := hd
  exact ev_br (fun hx hb a b => lv_if_gt hx hb hd ht a b) kt kf
theorem ev_if_gtT {x : Int32} {off : Int} {tgt : Nat} (hd : ev_d M pc (.ifCond .gt off) 3 pc') (ht : (pc : Int) + off = (tgt : Int)) (hp : 0 < x) (kt : Ev E M d tgt ls st h sz k n Q) : Ev E M d pc ls (.int x :: st) h sz k n Q := ev_if_gt hd ht (fun _ => kt) (fun q => absurd hp q)
theorem ev_if_gtF {x : Int32} {off : Int} {tgt : Nat} (hd : ev_d M pc (.ifCond .gt off) 3 pc') (ht : (pc : Int) + off = (tgt : Int)) (hp : ¬ (0 < x)) (kf : Ev E M d pc' ls st h sz k n Q) : Ev E M d pc ls (.int x :: st) h sz k n Q := ev_if_gt hd ht (fun q => absurd q hp) (fun _ => kf)
theorem ev_icmp_gt {x y : Int32} {off : Int} {tgt : Nat} (hd : ev_d M pc (.if_icmp .gt off) 3 pc') (ht : (pc : Int) + off = (tgt : Int)) (kt : y < x → Ev E M d tgt ls st h sz k n Q) (kf : ¬ (y < x) → Ev E M d pc' ls st h sz k n Q) : Ev E M d pc ls (.int y :: .int x :: st) h sz k n Q := by
  obtain ⟨hd, rfl⟩ := hd
  exact ev_br (fun hx hb a b => lv_icmp_gt hx hb hd ht a b) kt kf
theorem ev_icmp_gtT {x y : Int32} {off : Int} {tgt : Nat} (hd : ev_d M pc (.if_icmp .gt off) 3 pc') (ht : (pc : Int) + off = (tgt : Int)) (hp : y < x) (kt : Ev E M d tgt ls st h sz k n Q) : Ev E M d pc ls (.int y :: .int x :: st) h sz k n Q := ev_icmp_gt hd ht (fun _ => kt) (fun q => absurd hp q)
theorem ev_icmp_gtF {x y : Int32} {off : Int} {tgt : Nat} (hd : ev_d M pc (.if_icmp .gt off) 3 pc') (ht : (pc : Int) + off = (tgt : Int)) (hp : ¬ (y < x)) (kf : Ev E M d pc' ls st h sz k n Q) : Ev E M d pc ls (.int y :: .int x :: st) h sz k n Q := ev_icmp_gt hd ht (fun q => absurd q hp) (fun _ => kf)
theorem ev_if_le {x : Int32} {off : Int} {tgt : Nat} (hd : ev_d M pc (.ifCond .le off) 3 pc') (ht : (pc : Int) + off = (tgt : Int)) (kt : x ≤ 0 → Ev E M d tgt ls st h sz k n Q) (kf : ¬ (x ≤ 0) → Ev E M d pc' ls st h sz k n Q) : Ev E M d pc ls (.int x :: st) h sz k n Q := by
  obtain ⟨hd, rfl⟩ := hd
  exact ev_br (fun hx hb a b => lv_if_le hx hb hd ht a b) kt kf
theorem ev_if_leT {x : Int32} {off : Int} {tgt : Nat} (hd : ev_d M pc (.ifCond .le off) 3 pc') (ht : (pc : Int) + off = (tgt : Int)) (hp : x ≤ 0) (kt : Ev E M d tgt ls st h sz k n Q) : Ev E M d pc ls (.int x :: st) h sz k n Q := ev_if_le hd ht (fun _ => kt) (fun q => absurd hp q)
theorem ev_if_leF {x : Int32} {off : Int} {tgt : Nat} (hd : ev_d M pc (.ifCond .le off) 3 pc') (ht : (pc : Int) + off = (tgt : Int)) (hp : ¬ (x ≤ 0)) (kf : Ev E M d pc' ls st h sz k n Q) : Ev E M d pc ls (.int x :: st) h sz k n Q := ev_if_le hd ht (fun q => absurd q hp) (fun _ => kf)
theorem ev_icmp_le {x y : Int32} {off : Int} {tgt : Nat} (hd : ev_d M pc (.if_icmp .le off) 3 pc') (ht : (pc : Int) + off = (tgt : Int)) (kt : x ≤ y → Ev E M d tgt ls st h sz k n Q) (kf : ¬ (x ≤ y) → Ev E M d pc' ls st h sz k n Q) : Ev E M d pc ls (.int y :: .int x :: st) h sz k n Q := by
  obtain ⟨hd, rfl⟩ := hd
  exact ev_br (fun hx hb a b => lv_icmp_le hx hb hd ht a b) kt kf
theorem ev_icmp_leT {x y : Int32} {off : Int} {tgt : Nat} (hd : ev_d M pc (.if_icmp .le off) 3 pc') (ht : (pc : Int) + off = (tgt : Int)) (hp : x ≤ y) (kt : Ev E M d tgt ls st h sz k n Q) : Ev E M d pc ls (.int y :: .int x :: st) h sz k n Q := ev_icmp_le hd ht (fun _ => kt) (fun q => absurd hp q)
theorem ev_icmp_leF {x y : Int32} {off : Int} {tgt : Nat} (hd : ev_d M pc (.if_icmp .le off) 3 pc') (ht : (pc : Int) + off = (tgt : Int)) (hp : ¬ (x ≤ y)) (kf : Ev E M d pc' ls st h sz k n Q) : Ev E M d pc ls (.int y :: .int x :: st) h sz k n Q := ev_icmp_le hd ht (fun q => absurd q hp) (fun _ => kf)
theorem ev_ifnull_r {x : Nat} {off : Int} (hd : ev_d M pc (.ifnull off) 3 pc') (kk : Ev E M d pc' ls st h sz k n Q) : Ev E M d pc ls (.ref x :: st) h sz k n Q := by
  obtain ⟨hd, rfl⟩ := hd
  exact ev_pure (fun hx hb _ kw => lv_ifnull hx hb hd kw) kk
theorem ev_ifnull_n {off : Int} {tgt : Nat} (hd : ev_d M pc (.ifnull off) 3 pc') (ht : (pc : Int) + off = (tgt : Int)) (kk : Ev E M d tgt ls st h sz k n Q) : Ev E M d pc ls (.null :: st) h sz k n Q := ev_pure (fun hx hb _ kw => lv_ifnullN hx hb hd.1 ht kw) kk
theorem ev_ifnonnull_r {x : Nat} {off : Int} {tgt : Nat} (hd : ev_d M pc (.ifnonnull off) 3 pc') (ht : (pc : Int) + off = (tgt : Int)) (kk : Ev E M d tgt ls st h sz k n Q) : Ev E M d pc ls (.ref x :: st) h sz k n Q := ev_pure (fun hx hb _ kw => lv_ifnonnull hx hb hd.1 ht kw) kk
theorem ev_ifnonnull_n {off : Int} (hd : ev_d M pc (.ifnonnull off) 3 pc') (kk : Ev E M d pc' ls st h sz k n Q) : Ev E M d pc ls (.null :: st) h sz k n Q := by
  obtain ⟨hd, rfl⟩ := hd
  exact ev_pure (fun hx hb _ kw => lv_ifnonnullN hx hb hd kw) kk
end EVF
end
section
/-! Ev: fields, arrays, new. -/
theorem ev_gdO {C : String} : ev_gd (.arrayOver (.object C)) := fun _ _ _ _ hW h1 => va_AO.use (va_AO.moved hW.alike (va_AO.of h1))
theorem ev_R_up {E : ev_E} {h : ev_h} {sz : Nat} {H H' : Heap} {locs : List Loc} {a i : Nat} {x x' : va_E} (hR : ev_R E h sz H locs) (ha : h a = some x) (hx : va_at E.2.1 ev_cl (a, x') H') (hz : H'.size = H.size) (ho : ∀ q, q ≠ a → H'[q]? = H[q]?) : ev_R E (ev_up h a x') sz H' (locs ++ [⟨a, i⟩]) := by
  obtain ⟨r1, r2, r3, r4, r5, r6⟩ := hR
  have hb := r4 a x ha
  refine ⟨fun q y hq => ?_, hz.trans r2, r3, fun q y hq => ?_, fun q hq => ?_, fun y hy => ?_⟩
  · by_cases hqa : q = a
    · subst hqa
      rw [ev_up_s] at hq
      cases hq
      exact hx
    · rw [ev_up_n hqa] at hq
      exact (r1 q y hq).kept (ho q hqa)
  · by_cases hqa : q = a
    · subst hqa; exact hb
    · rw [ev_up_n hqa] at hq
      exact r4 q y hq
  · rw [ho q (by omega)]
    exact r5 q hq
  · rcases List.mem_append.mp hy with h1 | h1
    · exact r6 y h1
    · rw [List.mem_singleton] at h1
      subst h1
      exact hb
theorem ev_R_new {E : ev_E} {h : ev_h} {sz : Nat} {H H' : Heap} {locs : List Loc} {x' : va_E} (hR : ev_R E h sz H locs) (hx : va_at E.2.1 ev_cl (sz, x') H') (hz : H'.size = sz + 1) (ho : ∀ q, q < sz → H'[q]? = H[q]?) : ev_R E (ev_up h sz x') (sz + 1) H' locs := by
  obtain ⟨r1, r2, r3, r4, r5, r6⟩ := hR
  refine ⟨fun q y hq => ?_, hz, by omega, fun q y hq => ?_, fun q hq => ?_, r6⟩
  · by_cases hqa : q = sz
    · subst hqa
      rw [ev_up_s] at hq
      cases hq
      exact hx
    · rw [ev_up_n hqa] at hq
      have hl : q < H.size := (r1 q y hq).lt
      exact (r1 q y hq).kept (ho q (by rw [← r2]; exact hl))
  · by_cases hqa : q = sz
    · omega
    · rw [ev_up_n hqa] at hq
      exact r4 q y hq
  · rw [ho q (by omega)]
    exact r5 q hq
/-- a cell of the heap, as a world of one cell -/
theorem ev_P1 {D : va_G} {a : Nat} {x : va_E} {H : Heap} (hx : va_at D ev_cl (a, x) H) : va_P D ev_cl [(a, x)] H := fun j q hj => by
  cases j with
  | zero => cases hj; exact hx
  | succ j => simp at hj
/-- what the tables say of a class of the list -/
def ev_good (C : String) (T : u_T) (N : Nat) : Prop := (∀ w ∈ u_ws C T N, w ∈ lw_tbl) ∧ (∃ ty : Nat → FieldType, ∀ k, k < N → parseFieldDescriptor (T k).2.2.1 = some (ty k)) ∧ ∀ a, a < N → ∀ b, b < N → a ≠ b → (T a).2.1 ≠ (T b).2.1
theorem ev_lays {E : ev_E} {M : ev_M} {p : Program} {s : State} {m : MethodId} {meth : Method} {c : Code} (hC : ev_C E M p s m meth c) {C : String} {T : u_T} {N : Nat} (hin : ∀ w ∈ u_ws C T N, w ∈ lw_tbl) (w : Cond) (hw : w ∈ u_ws C T N) (args : Array Value) : w.before args s = true := by
  refine hC.w (hin w hw) ?_ args
  obtain ⟨k, -, rfl⟩ := List.mem_map.mp hw
  exact ev_gdL
/-- a field's site in class own: the field is number k0 of the class number ci -/
def ev_gs (own : String) (index ci k0 : Nat) : Prop := ∃ (ref C : String) (T : u_T) (N : Nat), ev_good C T N ∧ Cond.fieldLink own index ref (T k0).2.1 (T k0).2.2.1 ∈ lw_tbl ∧ (ref = (T k0).1 ∨ Cond.sameField ref (T k0).1 (T k0).2.1 (T k0).2.2.1 ∈ lw_tbl) ∧ ev_cl[ci]? = some (C, T, N) ∧ k0 < N
/-- the same, with the field's type; whether it is final (then: own, and only in a constructor) -/
def ev_ps (own mname : String) (index ci k0 : Nat) (ty : FieldType) : Prop := ∃ (ref C : String) (T : u_T) (N : Nat), ev_good C T N ∧ Cond.fieldLink own index ref (T k0).2.1 (T k0).2.2.1 ∈ lw_tbl ∧ (ref = (T k0).1 ∨ Cond.sameField ref (T k0).1 (T k0).2.1 (T k0).2.2.1 ∈ lw_tbl) ∧ ev_cl[ci]? = some (C, T, N) ∧ k0 < N ∧
  parseFieldDescriptor (T k0).2.2.1 = some ty ∧ ((T k0).2.2.2 = false ∨ ((T k0).2.2.2 = true ∧ mname = "<init>" ∧ (T k0).1 = own))
theorem ev_same {s : State} {args : Array Value} {ref : String} {t : String × String × String × Bool} (h : ref = t.1 ∨ (Cond.sameField ref t.1 t.2.1 t.2.2.1).before args s = true) : ∀ x, s.fieldFound? t.1 t.2.1 t.2.2.1 = some x → s.fieldFound? ref t.2.1 t.2.2.1 = some x := by
  rcases h with rfl | h
  · exact fun x hx => hx
  · exact u_same h
section EVH
variable {E : ev_E} {M : ev_M} {d pc pc' : Nat} {ls : List (Option Value)} {st : List Value} {h : ev_h} {sz k n : Nat} {Q : ev_Q}
theorem ev_get {index a ci k0 : Nat} {fs : List Value} {v : Value} (hd : ev_d M pc (.getfield index) 3 pc') (hs : ev_gs M.1.cls index ci k0) (he : h a = some (oB ci fs)) (hv : fs[k0]? = some v)
    (kk : Ev E M d pc' ls (v :: st) h sz k n Q) : Ev E M d pc ls (.ref a :: st) h sz k n Q := by
  obtain ⟨hd, rfl⟩ := hd
  obtain ⟨ref, C, T, N, hgood, hlk, hsm, hc, hk⟩ := hs
  intro p e R s m args below meth c H locs cells slots lsr hC hR hL h1 h2 h3 h4
  have kw := kk p e R s m args below meth c H locs cells slots lsr hC hR hL h1 h2 h3 h4
  exact va_get (ws := [(a, .inr (ci, fs))]) (Ts := u_ws C T N) hC.ex hC.cd (fun w hw => ev_lays hC hgood.1 w hw args) (fun w hw => hw) hC.ow hC.K (ev_P1 (hR.1 a _ he)) 0 rfl hc k0 hk (hC.w hlk (ev_gdT rfl) args)
    (ev_same (args := args) (hsm.imp id fun q => hC.w q (ev_gdT rfl) args)) hv hd kw
theorem ev_put {index a ci k0 : Nat} {fs : List Value} {v : Value} {ty : FieldType} (fs' : List Value) (hd : ev_d M pc (.putfield index) 3 pc') (hs : ev_ps M.1.cls M.1.name index ci k0 ty) (he : h a = some (oB ci fs)) (hn : narrow ty v = v) (hfit : fits ty v = true) (hl : Nat.ble (k0 + 1) fs.length = true) (hset : fs.set k0 v = fs')
    (kk : Ev E M d pc' ls st (ev_up h a (oB ci fs')) sz k n Q) : Ev E M d pc ls (v :: .ref a :: st) h sz k n Q := by
  obtain ⟨hd, rfl⟩ := hd
  replace hl : k0 < fs.length := Nat.le_of_ble_eq_true hl
  subst hset
  obtain ⟨ref, C, T, N, hgood, hlk, hsm, hc, hk, hty, hfin⟩ := hs
  obtain ⟨hin, ⟨ty0, hty0⟩, hnm⟩ := hgood
  intro p e R s m args below meth c H locs cells slots lsr hC hR hL h1 h2 h3 h4
  have hts : ∀ w ∈ u_ws C T N, w.before args s = true := fun w hw => ev_lays hC hin w hw args
  have hap := va_apart (own := M.1.cls) (D := E.2.1) hts (fun w hw => hw) ty0 hty0 hnm hC.K hc
  obtain ⟨r, g1, cell, q1, q2, q3, q4⟩ := hR.1 a _ he
  have hr : r = (C, T, N) := Option.some.inj (g1.symm.trans hc)
  subst hr
  obtain ⟨hS, hfc, kC, hkC, hkind⟩ := hC.K.1 ci _ hc
  obtain ⟨cf, kf, fi, f, hi, hsl⟩ := hS k0 hk
  have hlay := hts _ (u_in_lay hk)
  have hst := (u_facts hfc hkC (u_lays hts (fun w hw => hw) hk) hi).1
  have hlink := hC.w hlk (ev_gdT rfl) args
  have hsame := ev_same (args := args) (hsm.imp id fun q => hC.w q (ev_gdT rfl) args) _ hi
  unfold u_lay at hlay
  rcases hfin with hfin | ⟨hfin, hini, hdecl⟩
  · rw [if_neg (by rw [hfin]; decide)] at hlay
    have h6 := u_store hfc hkC hkind hlay hi hty hn hfit
    refine W.putK hC.ex hC.cd (f := f) ⟨hC.ow, hlink, ⟨_, _, _, hsame⟩, hst⟩ (by rw [q2]; exact h6) q1 q3 (by rw [hsl]; exact k2_hasslot (q4 k0 hk)) rfl rfl hd fun H' e1 e2 e3 => ?_
    rw [hsl] at e1 ⊢
    exact kk p e R s m args below meth c H' _ cells slots lsr hC (ev_R_up hR he ⟨_, hc, t_OB.to (V := updV (vp_V fs) k0 v) ⟨_, e1, q2, q3, t_set q4 hap hk v⟩ (fun j _ => vp_updV_set hl v j)⟩ e2 e3) hL h1 h2 h3 h4
  · rw [if_pos hfin] at hlay
    have hcf : m.cls = cf := by
      obtain ⟨_, _, c', _, _, _, -, -, hf', -, -, -, hown2, -⟩ := Cond.laysFinal_spec hlay
      have e1 : c' = cf := by have := hi.symm.trans hf'; simp at this; exact this.1.symm
      rw [hdecl] at hown2
      rw [← e1]; exact Option.some.inj (hC.ow.symm.trans hown2)
    have h6 := u_fits hfc hkC hkind (Or.inr hlay) hi hty hn hfit
    refine W.putFinK hC.ex hC.cd hC.ow hlink hsame hst hcf (hC.nm.trans hini) (by rw [q2]; exact h6) q1 q3 (by rw [hsl]; exact k2_hasslot (q4 k0 hk)) rfl rfl hd fun H' e1 e2 e3 => ?_
    rw [hsl] at e1 ⊢
    exact kk p e R s m args below meth c H' _ cells slots lsr hC (ev_R_up hR he ⟨_, hc, t_OB.to (V := updV (vp_V fs) k0 v) ⟨_, e1, q2, q3, t_set q4 hap hk v⟩ (fun j _ => vp_updV_set hl v j)⟩ e2 e3) hL h1 h2 h3 h4
theorem ev_in {j N : Nat} (hj : j < N) (hN : N ≤ 65536) : vp_in (nI j) N := by
  rintro (h | h)
  · exact nI_pos (by omega) h
  · rw [nI_clamp (by omega)] at h
    omega
theorem ev_iald {a N j : Nat} {f : Nat → Int32} {x : Int32} (hd : ev_d M pc .iaload 1 pc') (he : h a = some (iA E N f)) (hj : j < N) (hN : N ≤ 65536) (hv : f j = x)
    (kk : Ev E M d pc' ls (.int x :: st) h sz k n Q) : Ev E M d pc ls (.int (nI j) :: .ref a :: st) h sz k n Q := by
  obtain ⟨hd, rfl⟩ := hd
  subst hv
  intro p e R s m args below meth c H locs cells slots lsr hC hR hL h1 h2 h3 h4
  have kw := kk p e R s m args below meth c H locs cells slots lsr hC hR hL h1 h2 h3 h4
  have hcl : (nI j).toNatClampNeg = j := nI_clamp (by omega)
  exact va_iald (ws := [(a, .inl (E.2.2.1 0, N, .inl f))]) hC.ex hC.cd hC.K (ev_P1 (hR.1 a _ he)) 0 0 rfl rfl (ev_in hj hN) hd (by rw [hcl]; exact kw)
theorem ev_zald {a N j : Nat} {f : Nat → Int32} {x : Int32} (hd : ev_d M pc .baload 1 pc') (he : h a = some (zA E N f)) (hj : j < N) (hN : N ≤ 65536) (hv : f j = x)
    (kk : Ev E M d pc' ls (.int x :: st) h sz k n Q) : Ev E M d pc ls (.int (nI j) :: .ref a :: st) h sz k n Q := by
  obtain ⟨hd, rfl⟩ := hd
  subst hv
  intro p e R s m args below meth c H locs cells slots lsr hC hR hL h1 h2 h3 h4
  have kw := kk p e R s m args below meth c H locs cells slots lsr hC hR hL h1 h2 h3 h4
  have hcl : (nI j).toNatClampNeg = j := nI_clamp (by omega)
  exact va_zald (ws := [(a, .inl (E.2.2.1 1, N, .inl f))]) hC.ex hC.cd hC.K (ev_P1 (hR.1 a _ he)) 0 1 rfl rfl (ev_in hj hN) hd (by rw [hcl]; exact kw)
theorem ev_lald {a N j : Nat} {f : Nat → Int64} {x : Int64} (hd : ev_d M pc .laload 1 pc') (he : h a = some (lA E N f)) (hj : j < N) (hN : N ≤ 65536) (hv : f j = x)
    (kk : Ev E M d pc' ls (.long x :: st) h sz k n Q) : Ev E M d pc ls (.int (nI j) :: .ref a :: st) h sz k n Q := by
  obtain ⟨hd, rfl⟩ := hd
  subst hv
  intro p e R s m args below meth c H locs cells slots lsr hC hR hL h1 h2 h3 h4
  have kw := kk p e R s m args below meth c H locs cells slots lsr hC hR hL h1 h2 h3 h4
  have hcl : (nI j).toNatClampNeg = j := nI_clamp (by omega)
  exact va_lald (ws := [(a, .inl (E.2.2.1 2, N, .inr (.inl f)))]) hC.ex hC.cd hC.K (ev_P1 (hR.1 a _ he)) 0 2 rfl rfl (ev_in hj hN) hd (by rw [hcl]; exact kw)
/-- of an array of references (t: its number among the array types) -/
theorem ev_aald {a N j t : Nat} {ty : FieldType} {f : Nat → Option Nat} {v : Value} (hd : ev_d M pc .aaload 1 pc') (ht : (ev_tys E.2.2.1)[t]? = some (E.2.2.1 t, ty)) (hty : ty.isReference = true) (he : h a = some (rA E t N f)) (hj : j < N) (hN : N ≤ 65536) (hv : va_rf (f j) = v)
    (kk : Ev E M d pc' ls (v :: st) h sz k n Q) : Ev E M d pc ls (.int (nI j) :: .ref a :: st) h sz k n Q := by
  obtain ⟨hd, rfl⟩ := hd
  subst hv
  intro p e R s m args below meth c H locs cells slots lsr hC hR hL h1 h2 h3 h4
  have kw := kk p e R s m args below meth c H locs cells slots lsr hC hR hL h1 h2 h3 h4
  have hcl : (nI j).toNatClampNeg = j := nI_clamp (by omega)
  exact W.aald (v := va_rf (f j)) (ty := ty) hC.ex hC.cd (hR.1 a _ he) ((hC.K.2 t _ ht).1 N (fun j => va_rf (f j))) hty (fun q => by cases q) (by show ¬ (nI j < 0 ∨ (arrV _ _ _).slots.size ≤ _); rw [arrV_size]; exact ev_in hj hN) (by show (arrV _ _ _).slots[_]? = _; rw [hcl, arrV_read _ _ hj]) rfl rfl hd kw
theorem ev_alen {a t : Nat} {x : vp_A} {ty : FieldType} {v : Int32} (hd : ev_d M pc .arraylength 1 pc') (ht : (ev_tys E.2.2.1)[t]? = some (E.2.2.1 t, ty)) (he : h a = some (.inl (E.2.2.1 t, x))) (hv : nI x.1 = v)
    (kk : Ev E M d pc' ls (.int v :: st) h sz k n Q) : Ev E M d pc ls (.ref a :: st) h sz k n Q := by
  obtain ⟨hd, rfl⟩ := hd
  intro p e R s m args below meth c H locs cells slots lsr hC hR hL h1 h2 h3 h4
  have kw := kk p e R s m args below meth c H locs cells slots lsr hC hR hL h1 h2 h3 h4
  exact va_alen (ws := [(a, .inl (E.2.2.1 t, x))]) hC.ex hC.cd hC.K (ev_P1 (hR.1 a _ he)) 0 t rfl ht hv hd kw
theorem ev_iast {a N j : Nat} {f : Nat → Int32} {x : Int32} (hd : ev_d M pc .iastore 1 pc') (he : h a = some (iA E N f)) (hj : j < N) (hN : N ≤ 65536)
    (kk : Ev E M d pc' ls st (ev_up h a (iA E N (upd f j x))) sz k n Q) : Ev E M d pc ls (.int x :: .int (nI j) :: .ref a :: st) h sz k n Q := by
  obtain ⟨hd, rfl⟩ := hd
  intro p e R s m args below meth c H locs cells slots lsr hC hR hL h1 h2 h3 h4
  have hcl : (nI j).toNatClampNeg = j := nI_clamp (by omega)
  refine W.iast hC.ex hC.cd (hR.1 a _ he) ((hC.K.2 0 _ rfl).1 N (fun j => .int (f j))) (fun q => by cases q) (by show ¬ (nI j < 0 ∨ (arrV _ _ _).slots.size ≤ _); rw [arrV_size]; exact ev_in hj hN) rfl rfl hd fun H1 e1 z oq => ?_
  refine kk p e R s m args below meth c H1 _ cells slots lsr hC (ev_R_up hR he ?_ z oq) hL h1 h2 h3 h4
  show H1[a]? = some (vp_cell _ _)
  rw [e1, hcl, vp_cell_i, vp_cell_i, arrV_store]
  congr 2
  funext q
  by_cases hq : q = j
  · subst hq; simp [updV, upd]
  · simp [updV, upd, hq]
theorem ev_zast {a N j : Nat} {f : Nat → Int32} {x : Int32} (hd : ev_d M pc .bastore 1 pc') (he : h a = some (zA E N f)) (hj : j < N) (hN : N ≤ 65536) (hx : narrow .boolean (.int x) = .int x)
    (kk : Ev E M d pc' ls st (ev_up h a (zA E N (upd f j x))) sz k n Q) : Ev E M d pc ls (.int x :: .int (nI j) :: .ref a :: st) h sz k n Q := by
  obtain ⟨hd, rfl⟩ := hd
  intro p e R s m args below meth c H locs cells slots lsr hC hR hL h1 h2 h3 h4
  have hcl : (nI j).toNatClampNeg = j := nI_clamp (by omega)
  refine W.zast hC.ex hC.cd (hR.1 a _ he) ((hC.K.2 1 _ rfl).1 N (fun j => .int (f j))) (fun q => by cases q) (by show ¬ (nI j < 0 ∨ (arrV _ _ _).slots.size ≤ _); rw [arrV_size]; exact ev_in hj hN) rfl rfl hd fun H1 e1 z oq => ?_
  refine kk p e R s m args below meth c H1 _ cells slots lsr hC (ev_R_up hR he ?_ z oq) hL h1 h2 h3 h4
  show H1[a]? = some (vp_cell _ _)
  rw [e1, hcl, hx, vp_cell_i, vp_cell_i, arrV_store]
  congr 2
  funext q
  by_cases hq : q = j
  · subst hq; simp [updV, upd]
  · simp [updV, upd, hq]
theorem ev_last {a N j : Nat} {f : Nat → Int64} {x : Int64} (hd : ev_d M pc .lastore 1 pc') (he : h a = some (lA E N f)) (hj : j < N) (hN : N ≤ 65536)
    (kk : Ev E M d pc' ls st (ev_up h a (lA E N (vp_updL f j x))) sz k n Q) : Ev E M d pc ls (.long x :: .int (nI j) :: .ref a :: st) h sz k n Q := by
  obtain ⟨hd, rfl⟩ := hd
  intro p e R s m args below meth c H locs cells slots lsr hC hR hL h1 h2 h3 h4
  have hcl : (nI j).toNatClampNeg = j := nI_clamp (by omega)
  refine W.last hC.ex hC.cd (hR.1 a _ he) ((hC.K.2 2 _ rfl).1 N (fun j => .long (f j))) (fun q => by cases q) (by show ¬ (nI j < 0 ∨ (arrV _ _ _).slots.size ≤ _); rw [arrV_size]; exact ev_in hj hN) rfl rfl hd fun H1 e1 z oq => ?_
  refine kk p e R s m args below meth c H1 _ cells slots lsr hC (ev_R_up hR he ?_ z oq) hL h1 h2 h3 h4
  show H1[a]? = some (vp_cell _ _)
  rw [e1, hcl, vp_cell_l, vp_cell_l, arrV_store]
  congr 2
  funext q
  by_cases hq : q = j
  · subst hq; simp [updV, vp_updL]
  · simp [updV, vp_updL, hq]
/-- a reference into an array: cb is the class of the array's elements, castable from the object's -/
theorem ev_aast {a N j t v ci : Nat} {C Cv : String} {Tv : u_T} {Nv : Nat} {fs : List Value} {f : Nat → Option Nat} (hd : ev_d M pc .aastore 1 pc') (ht : (ev_tys E.2.2.1)[t]? = some (E.2.2.1 t, .object C)) (hc : ev_cl[ci]? = some (Cv, Tv, Nv)) (hcast : Cv = C ∨ Cond.castable Cv C ∈ lw_tbl) (he : h a = some (rA E t N f)) (hv : h v = some (oB ci fs)) (hj : j < N) (hN : N ≤ 65536)
    (kk : Ev E M d pc' ls st (ev_up h a (rA E t N (va_up f j (some v)))) sz k n Q) : Ev E M d pc ls (.ref v :: .int (nI j) :: .ref a :: st) h sz k n Q := by
  obtain ⟨hd, rfl⟩ := hd
  intro p e R s m args below meth c H locs cells slots lsr hC hR hL h1 h2 h3 h4
  have hcl : (nI j).toNatClampNeg = j := nI_clamp (by omega)
  obtain ⟨r', hr', cellV, g1, g2, g3, -⟩ := hR.1 v _ hv
  have hcls := (hC.K.1 ci _ hc).2
  obtain ⟨kA, comp, k1, k2, k3, -⟩ := (hC.K.2 t _ ht).2
  obtain ⟨kC, hkC, -⟩ := hcls.2
  have hasg : s.vm.assignable (E.2.1.1 ci) comp = true := by
    rcases hcast with rfl | hcast
    · have hcomp : comp = E.2.1.1 ci := Option.some.inj (k3.symm.trans hcls.1)
      rw [hcomp]
      exact va_assign hcls
    · obtain ⟨c0, t0, f1, f2, f3⟩ := Cond.castable_spec (hC.w hcast ev_gdC args)
      cases hcls.1.symm.trans f1
      cases k3.symm.trans f2
      exact f3
  obtain ⟨kcomp, hkcomp, -⟩ := Vm.findClass_spec k3
  refine W.aast hC.ex hC.cd (hR.1 a _ he) (fun q h => by cases h) (fun h => by cases h) k1 k2 rfl hkcomp ⟨fun q => ev_in hj hN (Or.inl q), by show _ < (arrV _ _ _).slots.size; rw [arrV_size, hcl]; exact hj⟩ g1 (fun q h => by rw [g3] at h; cases h) (by rw [g2]; exact hkC) (by rw [g2]; exact hasg) rfl rfl hd fun H1 e1 z oq => ?_
  refine kk p e R s m args below meth c H1 _ cells slots lsr hC (ev_R_up hR he ?_ z oq) hL h1 h2 h3 h4
  show H1[a]? = some (vp_cell _ _)
  rw [e1, hcl, vp_cell_q, vp_cell_q, arrV_store]
  congr 2
  funext q
  by_cases hq : q = j
  · subst hq; simp [updV, va_up, va_rf]
  · simp [updV, va_up, hq]
/-- a class's site for new -/
def ev_ns (own : String) (index ci N : Nat) (fs : List Value) : Prop := ∃ (C : String) (T : u_T) (ty : Nat → FieldType), ev_good C T N ∧ Cond.classLink own index C ∈ lw_tbl ∧ Cond.instantiable C N ∈ lw_tbl ∧ Cond.initialized C ∈ lw_tbl ∧ ev_cl[ci]? = some (C, T, N) ∧ (∀ k, k < N → parseFieldDescriptor (T k).2.2.1 = some (ty k)) ∧ ∀ j, j < N → defaultValue (ty j) = vp_V fs j
theorem ev_new {index ci N : Nat} {fs : List Value} (hd : ev_d M pc (.new index) 3 pc') (hs : ev_ns M.1.cls index ci N fs)
    (kk : Ev E M d pc' ls (.ref sz :: st) (ev_up h sz (oB ci fs)) (sz + 1) k n Q) : Ev E M d pc ls st h sz (k + 1) (n + N) Q := by
  obtain ⟨hd, rfl⟩ := hd
  obtain ⟨C, T, ty, hgood, hcl, hinst, hini, hc, hty, hfs⟩ := hs
  intro p e R s m args below meth c H locs cells slots lsr hC hR hL h1 h2 h3 h4
  have hts : ∀ w ∈ u_ws C T N, w.before args s = true := fun w hw => ev_lays hC hgood.1 w hw args
  have hKn := hC.K.1 ci _ hc
  have hz : H.size = sz := hR.2.1
  refine W.newcK hC.ex hC.cd hC.ow (hC.w hcl (ev_gdT rfl) args) (hC.w hinst (ev_gdT rfl) args) (hC.w hini (ev_gdT rfl) args) rfl hd (by omega) (by omega) hKn.2.1 hz fun H1 kC hkC e1 z1 o1 => ?_
  exact kk p e R s m args below meth c H1 locs (cells + 1) (slots + N) lsr hC (ev_R_new hR ⟨_, hc, (u_born ty hts (fun w hw => hw) hKn hkC e1 hty).to hfs⟩ z1 o1) hL h1 h2 (by omega) (by omega)
theorem ev_newi {N : Nat} (hd : ev_d M pc (.newarray .int) 2 pc') (hN : N ≤ 65536) (harr : Cond.arrayClass .int ∈ lw_tbl)
    (kk : Ev E M d pc' ls (.ref sz :: st) (ev_up h sz (iA E N (fun _ => nI 0))) (sz + 1) k n Q) : Ev E M d pc ls (.int (nI N) :: st) h sz (k + 1) (n + N) Q := by
  obtain ⟨hd, rfl⟩ := hd
  intro p e R s m args below meth c H locs cells slots lsr hC hR hL h1 h2 h3 h4
  have hz : H.size = sz := hR.2.1
  refine va_newaK hC.ex hC.cd (atype := .int) (hC.w harr ev_gdA args) (g := F0 m pc lsr (.int (nI N) :: st)) rfl hd (n := nI N) (N := N) (rest := st) rfl (nI_pos (by omega)) (nI_clamp (by omega)) (by show N * 4 ≤ _; omega) (by omega) (by omega) hz fun H1 cA e1 z1 o1 hA hfc => ?_
  have hcA : E.2.2.1 0 = cA := Option.some.inj ((show s.vm.findClass "[I" = some (E.2.2.1 0) from (hC.K.2 0 _ rfl).2).symm.trans hfc)
  exact kk p e R s m args below meth c H1 locs (cells + 1) (slots + N) lsr hC (ev_R_new hR (by show H1[sz]? = some (vp_cell _ _); rw [hcA]; exact e1) z1 o1) hL h1 h2 (by omega) (by omega)
theorem ev_newz {N : Nat} (hd : ev_d M pc (.newarray .boolean) 2 pc') (hN : N ≤ 65536) (harr : Cond.arrayClass .boolean ∈ lw_tbl)
    (kk : Ev E M d pc' ls (.ref sz :: st) (ev_up h sz (zA E N (fun _ => nI 0))) (sz + 1) k n Q) : Ev E M d pc ls (.int (nI N) :: st) h sz (k + 1) (n + N) Q := by
  obtain ⟨hd, rfl⟩ := hd
  intro p e R s m args below meth c H locs cells slots lsr hC hR hL h1 h2 h3 h4
  have hz : H.size = sz := hR.2.1
  refine va_newaK hC.ex hC.cd (atype := .boolean) (hC.w harr ev_gdA args) (g := F0 m pc lsr (.int (nI N) :: st)) rfl hd (n := nI N) (N := N) (rest := st) rfl (nI_pos (by omega)) (nI_clamp (by omega)) (by show N * 1 ≤ _; omega) (by omega) (by omega) hz fun H1 cA e1 z1 o1 hA hfc => ?_
  have hcA : E.2.2.1 1 = cA := Option.some.inj ((show s.vm.findClass "[Z" = some (E.2.2.1 1) from (hC.K.2 1 _ rfl).2).symm.trans hfc)
  exact kk p e R s m args below meth c H1 locs (cells + 1) (slots + N) lsr hC (ev_R_new hR (by show H1[sz]? = some (vp_cell _ _); rw [hcA]; exact e1) z1 o1) hL h1 h2 (by omega) (by omega)
theorem ev_newl {N : Nat} (hd : ev_d M pc (.newarray .long) 2 pc') (hN : N ≤ 65536) (harr : Cond.arrayClass .long ∈ lw_tbl)
    (kk : Ev E M d pc' ls (.ref sz :: st) (ev_up h sz (lA E N (fun _ => 0))) (sz + 1) k n Q) : Ev E M d pc ls (.int (nI N) :: st) h sz (k + 1) (n + N) Q := by
  obtain ⟨hd, rfl⟩ := hd
  intro p e R s m args below meth c H locs cells slots lsr hC hR hL h1 h2 h3 h4
  have hz : H.size = sz := hR.2.1
  refine va_newaK hC.ex hC.cd (atype := .long) (hC.w harr ev_gdA args) (g := F0 m pc lsr (.int (nI N) :: st)) rfl hd (n := nI N) (N := N) (rest := st) rfl (nI_pos (by omega)) (nI_clamp (by omega)) (by show N * 8 ≤ _; omega) (by omega) (by omega) hz fun H1 cA e1 z1 o1 hA hfc => ?_
  have hcA : E.2.2.1 2 = cA := Option.some.inj ((show s.vm.findClass "[J" = some (E.2.2.1 2) from (hC.K.2 2 _ rfl).2).symm.trans hfc)
  exact kk p e R s m args below meth c H1 locs (cells + 1) (slots + N) lsr hC (ev_R_new hR (by show H1[sz]? = some (vp_cell _ _); rw [hcA]; exact e1) z1 o1) hL h1 h2 (by omega) (by omega)
theorem ev_anew {N index t : Nat} {C : String} (hd : ev_d M pc (.anewarray index) 3 pc') (ht : (ev_tys E.2.2.1)[t]? = some (E.2.2.1 t, .object C)) (hlk : Cond.classLink M.1.cls index C ∈ lw_tbl) (hov : Cond.arrayOver (.object C) ∈ lw_tbl) (hN : N ≤ 65536)
    (kk : Ev E M d pc' ls (.ref sz :: st) (ev_up h sz (rA E t N (fun _ => none))) (sz + 1) k n Q) : Ev E M d pc ls (.int (nI N) :: st) h sz (k + 1) (n + N) Q := by
  obtain ⟨hd, rfl⟩ := hd
  intro p e R s m args below meth c H locs cells slots lsr hC hR hL h1 h2 h3 h4
  have hcl : (nI N).toNatClampNeg = N := nI_clamp (by omega)
  have hz : H.size = sz := hR.2.1
  refine W.anew hC.ex hC.cd hC.ow (hC.w hlk (ev_gdT rfl) args) (hC.w hov ev_gdO args) (g := F0 m pc lsr (.int (nI N) :: st)) rfl hd rfl (nI_pos (by omega)) (by rw [hcl]; omega) (by omega) (by rw [hcl]; omega) fun cA kA comp g1 g2 g3 g4 => ?_
  obtain ⟨kA', comp', k1, k2, k3, k4⟩ := (hC.K.2 t _ ht).2
  have hcA : E.2.2.1 t = cA := Option.some.inj (k4.symm.trans g1)
  rw [hcl, hz]
  refine kk p e R s m args below meth c _ locs (cells + 1) (slots + N) lsr hC (ev_R_new hR ?_ (by simp [hz]) (fun q hq => by rw [Array.getElem?_push, if_neg (by omega)])) hL h1 h2 (by omega) (by omega)
  show (H.push _)[sz]? = some (vp_cell _ _)
  rw [← hz, hcA, vp_cell_q]
  simp [arrV, va_rf, Array.ext_iff]
end EVH
end
section
/-! Ev: calls, and what goes on behind them. -/
/-- the search for a handler, at the call at pc -/
def Et (E : ev_E) (M : ev_M) (d pc : Nat) (ls : List (Option Value)) (a : Nat) (h : ev_h) (sz k n : Nat) (Q : ev_Q) : Prop :=
  ∀ (p : Program) (e : Env) (R : Room) (s : State) (m : MethodId) (args : Array Value) (below : List Frame) (meth : Method) (c : Code) (T : State) (locs : List Loc) (cells slots : Nat) (lsr : Array Slot) (st : List Value),
    ev_C E M p s m meth c → ev_R E h sz T.heap locs → ev_L M.2.2.1 lsr ls → d ≤ R.frames → d * 64 ≤ R.locals → cells + k ≤ R.cells → slots + n ≤ R.slots → Stand p E.1 e R s m args below meth c T locs cells slots →
    ∃ t, Steps p.tables e below ((T.setTop (F0 m pc lsr st)).pushFrame (.throwing a)) t ∧ ev_Z E s below R Q t
/-- what goes on behind a call at pc: the frame at pc', or the search for a handler -/
def ev_af (E : ev_E) (M : ev_M) (d pc pc' : Nat) (ls : List (Option Value)) (st : List Value) (Q : ev_Q) : ev_Q := fun o h sz k n => match o with
  | .returned v => Ev E M d pc' ls (v.toList ++ st) h sz k n Q
  | .threw a => Et E M d pc ls a h sz k n Q
theorem ev_r0 {E : ev_E} {M : ev_M} {d pc pc' : Nat} {ls : List (Option Value)} {st : List Value} {Q : ev_Q} {h : ev_h} {sz k n : Nat} (kk : Ev E M d pc' ls st h sz k n Q) : ev_af E M d pc pc' ls st Q (.returned none) h sz k n := kk
theorem ev_r1 {E : ev_E} {M : ev_M} {d pc pc' : Nat} {ls : List (Option Value)} {st : List Value} {Q : ev_Q} {h : ev_h} {sz k n : Nat} {v : Value} (kk : Ev E M d pc' ls (v :: st) h sz k n Q) : ev_af E M d pc pc' ls st Q (.returned (some v)) h sz k n := kk
theorem ev_rt {E : ev_E} {M : ev_M} {d pc pc' : Nat} {ls : List (Option Value)} {st : List Value} {Q : ev_Q} {h : ev_h} {sz k n a : Nat} (kk : Et E M d pc ls a h sz k n Q) : ev_af E M d pc pc' ls st Q (.threw a) h sz k n := kk
/-- the locals with which a method begins -/
def ev_ar : List Value → List (Option Value)
  | [] => []
  | v :: vs => if v.category = 2 then some v :: none :: ev_ar vs else some v :: ev_ar vs
theorem ev_weak {tb : Tables} {e : Env} {mid below : List Frame} {a b : State} (h : Steps tb e (mid ++ below) a b) : Steps tb e below a b := by
  obtain ⟨n, hn, w⟩ := h
  exact ⟨n, hn, fun k hk => (w k hk).weaken⟩
theorem ev_args_mem : ∀ (As : List Value) (j i : Nat) (v : Value), (ev_ar As)[i]? = some (some v) → (j + i, v) ∈ lv_args j As
  | [], j, i, v, h => by simp [ev_ar] at h
  | a :: As, j, i, v, h => by
    simp only [ev_ar] at h
    simp only [lv_args]
    split at h
    · rename_i h2
      rw [if_pos h2]
      match i, h with
      | 0, h =>
        simp at h
        subst h
        exact List.mem_cons_self
      | 1, h => simp at h
      | i + 2, h =>
        simp only [List.getElem?_cons_succ] at h
        have := ev_args_mem As (j + 2) i v h
        rw [show j + (i + 2) = j + 2 + i by omega]
        exact List.mem_cons_of_mem _ this
    · rename_i h2
      rw [if_neg h2]
      match i, h with
      | 0, h =>
        simp at h
        subst h
        exact List.mem_cons_self
      | i + 1, h =>
        simp only [List.getElem?_cons_succ] at h
        have := ev_args_mem As (j + 1) i v h
        rw [show j + (i + 1) = j + 1 + i by omega]
        exact List.mem_cons_of_mem _ this
theorem ev_ar_len : ∀ As : List Value, (lg_sl As).length = (ev_ar As).length
  | [] => rfl
  | a :: As => by
    have h := ev_ar_len As
    have e : lg_sl (a :: As) = (if a.category = 2 then [Slot.val a, Slot.second] else [Slot.val a]) ++ lg_sl As := rfl
    rw [e, List.length_append, h]
    simp only [ev_ar]
    split
    · simp; omega
    · simp; omega
/-- into the callee's frame, and out of it -/
theorem ev_enter {E : ev_E} {M M' : ev_M} {d pc pc' : Nat} {ls lk : List (Option Value)} {rest As : List Value} {h : ev_h} {sz k n : Nat} {Q : ev_Q} {p : Program} {e : Env} {R : Room} {s : State} {m : MethodId} {args : Array Value} {below : List Frame} {meth : Method} {c : Code} {T : State} {locs : List Loc} {cells slots : Nat} {lsr : Array Slot}
    (hC : ev_C E M p s m meth c) (hR : ev_R E h sz T.heap locs) (hL : ev_L M.2.2.1 lsr ls) (h1 : d + 1 ≤ R.frames) (h2 : (d + 1) * 64 ≤ R.locals) (h3 : cells + k ≤ R.cells) (h4 : slots + n ≤ R.slots)
    (X : Stand p E.1 e R s m args below meth c T locs cells slots) {ig : Instr} (hdg : decode c.code pc = .ok (ig, 3)) (hpc : pc + 3 = pc') {mk : MethodId} {methk : Method} {ck : Code}
    (hn : s.methodNamed? M'.1 = some mk) (hmk : s.vm.method? mk = some methk) (hck : methk.code = some ck) (e1 : ck.code = M'.2.1) (e2 : ck.maxLocals = M'.2.2.1) (e3 : methk.sig.returnType = M'.2.2.2.1) (e4 : methk.locks = false)
    (e5 : (ck.exceptionTable.toList.map fun x => (x.startPc, x.endPc, x.handlerPc, x.catchType)) = M'.2.2.2.2) (hpl : plainName M'.1.cls = true)
    (hroom : (rest.map fun v => v.category).sum + M'.2.2.1 + 11 ≤ 64) (hlk : ∀ (i : Nat) (v : Value), lk[i]? = some (some v) → (ev_ar As)[i]? = some (some v)) (hlen : (ev_ar As).length ≤ M'.2.2.1)
    (kk : Ev E M' d 0 lk [] h sz k n (ev_af E M (d + 1) pc pc' ls rest Q)) :
    ∃ t, (∀ acts, Steps p.tables e below (doInvoke e (T.setTop (F0 m pc lsr rest)) acts mk As.toArray).1 t) ∧ ev_Z E s below R Q t := by
  have hsize : (F0 m pc lsr rest).locals.size = c.maxLocals := hL.1.trans hC.ml.symm
  have hmkT : T.vm.method? mk = some methk := by rw [X.warmed.alike.method?]; exact hmk
  have hfc : s.vm.findClass M'.1.cls = some mk.cls := findClass_of_methodNamed hn
  have hpk : T.plainMethod mk := by
    intro kx hkx
    refine plain_of_name ?_
    obtain ⟨k0, hk0, hk0n⟩ := className_of_methodNamed hn
    obtain ⟨k1, hk1, he⟩ := X.warmed.alike.2.2 _ _ hk0
    have ek : kx = k1 := Option.some.inj (hkx.symm.trans hk1)
    rw [ek, he]
    show plainName k0.name = true
    rw [hk0n]
    exact hpl
  have hmr : (F0 m pc lsr rest).monitorRoom = 0 := rfl
  obtain ⟨Y₀, hin⟩ := X.into (g := F0 m pc lsr rest) rfl hsize hdg As.toArray (R' := { frames := d, cells := R.cells - cells, slots := R.slots - slots, locals := d * 64 }) hmkT hck e4 hpk h1
    (by show 2 * (F0 m pc lsr rest).monitorRoom + (rest.map fun v => v.category).sum + (ck.maxLocals + 11) + d * 64 ≤ R.locals; rw [hmr, e2]; omega) (by show cells + (R.cells - cells) ≤ R.cells; omega) (by show slots + (R.slots - slots) ≤ R.slots; omega)
  have hWk : E.2.2.2.1.WarmedH (T.calling (F0 m pc lsr rest) mk As.toArray).vm := State.WarmedH.trans hC.wm X.warmed
  have hhk : (T.calling (F0 m pc lsr rest) mk As.toArray).heap = T.heap := rfl
  have hCk : ev_C E M' p (T.calling (F0 m pc lsr rest) mk As.toArray) mk methk ck :=
    ⟨hC.1, hC.ex, e1, e2, e3, e4, e5, by show T.vm.findClass _ = _; rw [X.warmed.alike.findClass]; exact hfc, (name_of_methodNamed hn hmk).1, hWk, fun q hq => by rw [hhk]; exact hR.2.2.2.2.1 q hq, by rw [hhk, hR.2.1]; exact hR.2.2.1⟩
  have hl0 := lv_entry As (n := ck.maxLocals) (by rw [ev_ar_len As, e2]; exact hlen)
  have hef := lg_entry_eq mk As ck.maxLocals
  generalize (lg_sl As ++ List.replicate (ck.maxLocals - (lg_sl As).length) Slot.unset).toArray = lsk at hl0 hef
  have hLk : ev_L M'.2.2.1 lsk lk := by
    refine ⟨hl0.1.trans e2, hl0.2.1, fun i v hi => ?_⟩
    have := hl0.2.2 _ (ev_args_mem As 0 i v (hlk i v hi))
    simpa using this
  obtain ⟨t, hst, o, h', sz', k', n', L, c', n2, hrun, hend, hWm, hsame, hR2, hk', hn', hq⟩ := kk p e { frames := d, cells := R.cells - cells, slots := R.slots - slots, locals := d * 64 } _ mk As.toArray (.java (F0 m pc lsr rest) :: below) methk ck T.heap [] 0 0 lsk hCk ⟨hR.1, hR.2.1, hR.2.2.1, hR.2.2.2.1, hR.2.2.2.2.1, fun x hx => by cases hx⟩ hLk
    (Nat.le_refl _) (Nat.le_refl _) (by show 0 + k ≤ R.cells - cells; omega) (by show 0 + n ≤ R.slots - slots; omega) ((T.setTop (F0 m pc lsr rest)).pushFrame (.java (entryFrame mk As.toArray ck.maxLocals))) rfl Y₀
  have hst' : Steps p.tables e below (((T.setTop (F0 m pc lsr rest)).pushFrame (.java (entryFrame mk As.toArray ck.maxLocals))).setTop (entryFrame mk As.toArray ck.maxLocals)) t := ev_weak (mid := [.java (F0 m pc lsr rest)]) (by rw [hef]; rw [hef] at hst; exact hst)
  have hk2 : c' + k' ≤ R.cells - cells := hk'
  have hn2 : n2 + n' ≤ R.slots - slots := hn'
  cases o with
  | returned v =>
    obtain ⟨T', X', hW', hB', ht⟩ := X.outOf (g := F0 m pc lsr rest) rfl hdg hend hWm hsame
    have hh : T'.heap = t.heap := by rw [ht]; rfl
    obtain ⟨t2, s2, z2⟩ := hq p e R s m args below meth c T'.heap (locs ++ L) (cells + c') (slots + n2) lsr hC
      ⟨by rw [hh]; exact hR2.1, by rw [hh]; exact hR2.2.1, hR2.2.2.1, hR2.2.2.2.1, by rw [hh]; exact hR2.2.2.2.2.1, fun x hx => by rcases List.mem_append.mp hx with hx | hx; exact hR.2.2.2.2.2 x hx; exact hR2.2.2.2.2.2 x hx⟩ hL h1 h2 (by omega) (by omega) T' rfl X'
    refine ⟨t2, fun acts => ?_, z2⟩
    rw [hin acts]
    refine hst'.trans ?_
    rw [ht]
    subst hpc
    exact s2
  | threw x =>
    obtain ⟨T', X', hW', hB', ht⟩ := X.outOfThrown (g := F0 m pc lsr rest) rfl hend hWm hsame
    have hh : T'.heap = t.heap := by rw [ht]; rfl
    obtain ⟨t2, s2, z2⟩ := hq p e R s m args below meth c T' (locs ++ L) (cells + c') (slots + n2) lsr rest hC
      ⟨by rw [hh]; exact hR2.1, by rw [hh]; exact hR2.2.1, hR2.2.2.1, hR2.2.2.2.1, by rw [hh]; exact hR2.2.2.2.2.1, fun x hx => by rcases List.mem_append.mp hx with hx | hx; exact hR.2.2.2.2.2 x hx; exact hR2.2.2.2.2.2 x hx⟩ hL h1 h2 (by omega) (by omega) X'
    refine ⟨t2, fun acts => ?_, z2⟩
    rw [hin acts]
    refine hst'.trans ?_
    rw [ht]
    exact s2
/-- the words of a callee's code -/
def ev_cd (M : ev_M) : Prop := plainName M.1.cls = true ∧ (M.1.cls ≠ "java/lang/invoke/MethodHandle" ∧ M.1.cls ≠ "java/lang/invoke/VarHandle") ∧ ((Cond.code M.1 M.2.1 M.2.2.1 M.2.2.2.1 ∈ lw_tbl ∧ M.2.2.2.2 = []) ∨ Cond.codeWith M.1 M.2.1 M.2.2.1 M.2.2.2.1 M.2.2.2.2 ∈ lw_tbl)
theorem ev_cd_spec {E : ev_E} {M0 M : ev_M} {p : Program} {s : State} {m0 : MethodId} {meth0 : Method} {c0 : Code} (hC : ev_C E M0 p s m0 meth0 c0) (hc : ev_cd M) : ∃ m meth c, s.methodNamed? M.1 = some m ∧ s.vm.method? m = some meth ∧ meth.code = some c ∧ c.code = M.2.1 ∧ c.maxLocals = M.2.2.1 ∧ meth.sig.returnType = M.2.2.2.1 ∧ meth.locks = false ∧ (c.exceptionTable.toList.map fun x => (x.startPc, x.endPc, x.handlerPc, x.catchType)) = M.2.2.2.2 ∧ parseMethodDescriptor M.1.desc = some meth.sig := by
  rcases hc.2.2 with ⟨h1, h2⟩ | h1
  · have hw := hC.w h1 (ev_gdT rfl) #[]
    obtain ⟨m, hn⟩ := Cond.code_named hw
    obtain ⟨meth, c, q1, q2, q3, q4, q5, q6, q7, q8⟩ := Cond.code_spec hn hw
    refine ⟨m, meth, c, hn, q1, q2, q3, q4, q5, q6, ?_, q8⟩
    have h0 : c.exceptionTable.size = 0 := by simpa [Array.isEmpty] using q7
    have h3 : c.exceptionTable.toList = [] := List.eq_nil_of_length_eq_zero (by simpa using h0)
    rw [h2, h3]; rfl
  · have hw := hC.w h1 (ev_gdT rfl) #[]
    obtain ⟨m, meth, c, q0, q1, q2, q3, q4, q5, q6, q7, q8⟩ := Cond.codeWith_spec hw
    exact ⟨m, meth, c, q0, q1, q2, q3, q4, q6, q7, q5, q8⟩
section EVC
variable {E : ev_E} {M M' : ev_M} {d pc pc' : Nat} {ls lk : List (Option Value)} {st rest As : List Value} {h : ev_h} {sz k n : Nat} {Q : ev_Q}
/-- how a callee's first locals are known -/
def ev_lk (As : List Value) (lk : List (Option Value)) (nL : Nat) : Prop := (∀ (i : Nat) (v : Value), lk[i]? = some (some v) → (ev_ar As)[i]? = some (some v)) ∧ (ev_ar As).length ≤ nL
theorem ev_lk_of {As : List Value} {lk : List (Option Value)} {nL j : Nat} (h : ev_ar As ++ List.replicate j none = lk) (hl : Nat.ble (ev_ar As).length nL = true) : ev_lk As lk nL := by
  replace hl := Nat.le_of_ble_eq_true hl
  subst h
  refine ⟨fun i v hi => ?_, hl⟩
  by_cases hlt : i < (ev_ar As).length
  · rwa [List.getElem?_append_left hlt] at hi
  · rw [List.getElem?_append_right (by omega), List.getElem?_replicate] at hi
    split at hi <;> cases hi
def ev_wS (own : String) (index : Nat) (M' : ev_M) : Prop := ev_cd M' ∧ Cond.static M'.1 ∈ lw_tbl ∧ Cond.initialized M'.1.cls ∈ lw_tbl ∧ (Cond.methodLink own index M'.1 ∈ lw_tbl ∨ ∃ host, Cond.methodLinkNest own index M'.1 host ∈ lw_tbl)
def ev_np (M' : ev_M) (j : Nat) : Prop := ∀ sig, parseMethodDescriptor M'.1.desc = some sig → j = sig.parameters.length
theorem ev_np_of {M' : ev_M} {j : Nat} (hh : (parseMethodDescriptor M'.1.desc).map (fun s => s.parameters.length) = some j) : ev_np M' j := by
  intro sig hs
  rw [hs] at hh
  exact (Option.some.inj hh).symm
theorem ev_callS {index : Nat} (hd : ev_d M pc (.invokestatic index) 3 pc') (hw : ev_wS M.1.cls index M') (As : List Value) (hst : st = As.reverse ++ rest) (hn : ev_np M' As.length)
    (hroom : Nat.ble ((rest.map fun v => v.category).sum + M'.2.2.1 + 11) 64 = true) (hlk : ev_lk As lk M'.2.2.1)
    (kk : Ev E M' d 0 lk [] h sz k n (ev_af E M (d + 1) pc pc' ls rest Q)) : Ev E M (d + 1) pc ls st h sz k n Q := by
  intro p e R s m args below meth c H locs cells slots lsr hC hR hL h1 h2 h3 h4 T hT X
  subst hT
  obtain ⟨hd, hpc⟩ := hd
  obtain ⟨mk, methk, ck, q0, q1, q2, q3, q4, q5, q6, q7, q8⟩ := ev_cd_spec hC hw.1
  have hstat : methk.isStatic = true := Cond.static_spec q0 q1 (hC.w hw.2.1 (ev_gdT rfl) args)
  obtain ⟨kP, hkP, -⟩ := className_of_methodNamed q0
  have hinit : kP.init = .initialized := Cond.initialized_spec (findClass_of_methodNamed q0) hkP (hC.w hw.2.2.1 (ev_gdT rfl) args)
  have hdc : decode c.code pc = .ok (.invokestatic index, 3) := by rw [hC.cd]; exact hd
  have go : ∃ vm', Stand p E.1 e R s m args below meth c (T.setVm vm') locs cells slots ∧
      ∀ target, (∀ acts, Steps p.tables e below (doInvoke e ((T.setVm vm').setTop (F0 m pc lsr rest)) acts mk As.toArray).1 target) → Steps p.tables e below (T.setTop (F0 m pc lsr st)) target := by
    rcases hw.2.2.2 with hl | ⟨host, hl⟩
    · exact X.invokestatic hC.ex hC.ow (hC.w hl (ev_gdT rfl) args) q0 q1 hstat hkP hinit hw.1.2.1 (g := F0 m pc lsr st) rfl (argsL := As) (rest := rest) (hn _ q8) hst hdc
    · exact X.invokestaticNest hC.ex hC.ow (hC.w hl ev_gdN args) q0 q1 hstat hkP hinit hw.1.2.1 (g := F0 m pc lsr st) rfl (argsL := As) (rest := rest) (hn _ q8) hst hdc
  obtain ⟨vm', X', st'⟩ := go
  obtain ⟨t, a1, z⟩ := ev_enter (T := T.setVm vm') hC hR hL h1 h2 h3 h4 X' hdc hpc q0 q1 q2 q3 q4 q5 q6 q7 hw.1.1 (Nat.le_of_ble_eq_true hroom) hlk.1 hlk.2 kk
  exact ⟨t, st' t a1, z⟩
/-- a method that the receiver's class has by that very name -/
def ev_wV (own : String) (index ci : Nat) (M' : ev_M) : Prop := ∃ (C : String) (T : u_T) (N : Nat), ev_cl[ci]? = some (C, T, N) ∧ ev_cd M' ∧ Cond.instanceMethod M'.1 ∈ lw_tbl ∧ Cond.selects C M'.1 M'.1 ∈ lw_tbl ∧ (Cond.methodLink own index M'.1 ∈ lw_tbl ∨ ∃ host, Cond.methodLinkNest own index M'.1 host ∈ lw_tbl)
theorem ev_callV {index a ci : Nat} {fs : List Value} (hd : ev_d M pc (.invokevirtual index) 3 pc') (hw : ev_wV M.1.cls index ci M') (he : h a = some (.inr (ci, fs))) (As : List Value) (hst : st = As.reverse ++ .ref a :: rest) (hn : ev_np M' As.length)
    (hroom : Nat.ble ((rest.map fun v => v.category).sum + M'.2.2.1 + 11) 64 = true) (hlk : ev_lk (.ref a :: As) lk M'.2.2.1)
    (kk : Ev E M' d 0 lk [] h sz k n (ev_af E M (d + 1) pc pc' ls rest Q)) : Ev E M (d + 1) pc ls st h sz k n Q := by
  intro p e R s m args below meth c H locs cells slots lsr hC hR hL h1 h2 h3 h4 T hT X
  subst hT
  obtain ⟨hd, hpc⟩ := hd
  obtain ⟨C, TT, NN, hc, hcd, hin, hse, hlink⟩ := hw
  obtain ⟨mk, methk, ck, q0, q1, q2, q3, q4, q5, q6, q7, q8⟩ := ev_cd_spec hC hcd
  obtain ⟨mk', methM, hnamed, hmethM, hstM, habM⟩ := Cond.instanceMethod_spec (hC.w hin (ev_gdT rfl) args)
  cases q0.symm.trans hnamed
  cases q1.symm.trans hmethM
  obtain ⟨cellB, hcell, hobj, hcls⟩ := va_recv hC.K (ev_P1 (hR.1 a _ he)) hc (q0 := 0) rfl
  obtain ⟨c2, r2, m2, g1, g2, g3, g4, kP, hkP, hkPi⟩ := Cond.selects_spec (hC.w hse (ev_gdT rfl) args)
  cases hcls.symm.trans g1
  cases (State.methodFound?_of_named hnamed hcd.2.1).symm.trans g2
  cases hnamed.symm.trans g3
  have hselP : selectMethod e.platform s.vm cellB.cls mk = .method mk := by rw [Launch.admits_selectMethod X.admits]; exact g4
  have hdc : decode c.code pc = .ok (.invokevirtual index, 3) := by rw [hC.cd]; exact hd
  have go : ∃ vm', Stand p E.1 e R s m args below meth c (T.setVm vm') locs cells slots ∧
      ∀ target, (∀ acts, Steps p.tables e below (doInvoke e ((T.setVm vm').setTop (F0 m pc lsr rest)) acts mk (Value.ref a :: As).toArray).1 target) → Steps p.tables e below (T.setTop (F0 m pc lsr st)) target := by
    rcases hlink with hl | ⟨host, hl⟩
    · exact X.invokevirtual hC.ex hC.ow (hC.w hl (ev_gdT rfl) args) hnamed hmethM hstM hkP hkPi hcd.2.1 (a := a) (cell := cellB) hcell (fun z h => by rw [h] at hobj; cases hobj) hselP hmethM habM hkP hkPi (g := F0 m pc lsr st) rfl (argsL := As) (rest := rest) (hn _ q8) hst hdc
    · exact X.invokevirtualNest hC.ex hC.ow (hC.w hl ev_gdN args) hnamed hmethM hstM hkP hkPi hcd.2.1 (a := a) (cell := cellB) hcell (fun z h => by rw [h] at hobj; cases hobj) hselP hmethM habM hkP hkPi (g := F0 m pc lsr st) rfl (argsL := As) (rest := rest) (hn _ q8) hst hdc
  obtain ⟨vm', X', st'⟩ := go
  obtain ⟨t, a1, z⟩ := ev_enter (T := T.setVm vm') (As := Value.ref a :: As) hC hR hL h1 h2 h3 h4 X' hdc hpc q0 q1 q2 q3 q4 q5 q6 q7 hcd.1 (Nat.le_of_ble_eq_true hroom) hlk.1 hlk.2 kk
  exact ⟨t, st' t a1, z⟩
/-- a method that is called by another class's name: x as the site spells it, owner: who declares it -/
def ev_wU (own : String) (index ci : Nat) (x : MethodName) (M' : ev_M) : Prop := ∃ (C owner : String) (T : u_T) (N : Nat), ev_cl[ci]? = some (C, T, N) ∧ ev_cd M' ∧ Cond.instanceMethod M'.1 ∈ lw_tbl ∧ Cond.selects C x M'.1 ∈ lw_tbl ∧ Cond.methodLink own index x ∈ lw_tbl ∧ Cond.sameMethod x.cls owner x.name x.desc ∈ lw_tbl ∧ (Cond.declares ⟨owner, x.name, x.desc⟩ ∈ lw_tbl ∨ (Cond.instanceMethod ⟨owner, x.name, x.desc⟩ ∈ lw_tbl ∧ ∃ bs mL rt, Cond.code ⟨owner, x.name, x.desc⟩ bs mL rt ∈ lw_tbl)) ∧ (owner ≠ "java/lang/invoke/MethodHandle" ∧ owner ≠ "java/lang/invoke/VarHandle")
theorem ev_callU {index a ci : Nat} {x : MethodName} {fs : List Value} (hd : ev_d M pc (.invokevirtual index) 3 pc') (hw : ev_wU M.1.cls index ci x M') (he : h a = some (.inr (ci, fs))) (As : List Value) (hst : st = As.reverse ++ .ref a :: rest) (hn : ∀ sig, parseMethodDescriptor x.desc = some sig → As.length = sig.parameters.length)
    (hroom : Nat.ble ((rest.map fun v => v.category).sum + M'.2.2.1 + 11) 64 = true) (hlk : ev_lk (.ref a :: As) lk M'.2.2.1)
    (kk : Ev E M' d 0 lk [] h sz k n (ev_af E M (d + 1) pc pc' ls rest Q)) : Ev E M (d + 1) pc ls st h sz k n Q := by
  intro p e R s m args below meth c H locs cells slots lsr hC hR hL h1 h2 h3 h4 T hT X
  subst hT
  obtain ⟨hd, hpc⟩ := hd
  obtain ⟨C, owner, TT, NN, hc, hcd, hin, hse, hl, hsame, hdcl, hnot⟩ := hw
  obtain ⟨mk, methk, ck, q0, q1, q2, q3, q4, q5, q6, q7, q8⟩ := ev_cd_spec hC hcd
  obtain ⟨mk', methM, hnamed, hmethM, hstM, habM⟩ := Cond.instanceMethod_spec (hC.w hin (ev_gdT rfl) args)
  cases q0.symm.trans hnamed
  cases q1.symm.trans hmethM
  obtain ⟨r0, r, hn0, hrm, hstR, hsigR⟩ : ∃ m meth, s.methodNamed? ⟨owner, x.name, x.desc⟩ = some m ∧ s.vm.method? m = some meth ∧ meth.isStatic = false ∧ parseMethodDescriptor x.desc = some meth.sig := by
    rcases hdcl with hdcl | ⟨hd1, bs, mL, rt, hd2⟩
    · exact Cond.declares_spec (hC.w hdcl ev_gdD args)
    · obtain ⟨r0, r, a1, a2, a3, -⟩ := Cond.instanceMethod_spec (hC.w hd1 (ev_gdT rfl) args)
      obtain ⟨r', c', b1, b2, b3, b4, b5, b6, b7, b8⟩ := Cond.code_spec a1 (hC.w hd2 (ev_gdT rfl) args)
      cases a2.symm.trans b1
      exact ⟨r0, r, a1, a2, a3, b8⟩
  have hsm := hC.w hsame (ev_gdT rfl) args
  obtain ⟨cn, ck0, r1, hcn, hck0, hni, hf, hn1⟩ := Cond.sameMethod_found hsm
  cases hn0.symm.trans hn1
  obtain ⟨cellB, hcell, hobj, hcls⟩ := va_recv hC.K (ev_P1 (hR.1 a _ he)) hc (q0 := 0) rfl
  obtain ⟨c2, r2, m2, g1, g2, g3, g4, kP, hkP, hkPi⟩ := Cond.selects_spec (hC.w hse (ev_gdT rfl) args)
  cases hcls.symm.trans g1
  cases hf.symm.trans g2
  cases hnamed.symm.trans g3
  have hselP : selectMethod e.platform s.vm cellB.cls r0 = .method mk := by rw [Launch.admits_selectMethod X.admits]; exact g4
  have hdc : decode c.code pc = .ok (.invokevirtual index, 3) := by rw [hC.cd]; exact hd
  obtain ⟨vm', X', st'⟩ := X.invokevirtualUp hC.ex hC.ow (hC.w hl (ev_gdT rfl) args) hsm hnot hn0 hrm hstR (a := a) (cell := cellB) hcell (fun z h => by rw [h] at hobj; cases hobj) hselP hmethM habM hkP hkPi (g := F0 m pc lsr st) rfl (argsL := As) (rest := rest) (hn _ hsigR) hst hdc
  obtain ⟨t, a1, z⟩ := ev_enter (T := T.setVm vm') (As := Value.ref a :: As) hC hR hL h1 h2 h3 h4 X' hdc hpc q0 q1 q2 q3 q4 q5 q6 q7 hcd.1 (Nat.le_of_ble_eq_true hroom) hlk.1 hlk.2 kk
  exact ⟨t, st' t a1, z⟩
/-- a constructor -/
def ev_wI (own : String) (index : Nat) (M' : ev_M) : Prop := ev_cd M' ∧ M'.1.name = "<init>" ∧ M'.2.2.2.1 = none ∧ Cond.instanceMethod M'.1 ∈ lw_tbl ∧ Cond.code M'.1 M'.2.1 M'.2.2.1 M'.2.2.2.1 ∈ lw_tbl ∧ (Cond.methodLink own index M'.1 ∈ lw_tbl ∨ ∃ host, Cond.methodLinkNest own index M'.1 host ∈ lw_tbl)
theorem ev_callI {index a : Nat} (hd : ev_d M pc (.invokespecial index) 3 pc') (hw : ev_wI M.1.cls index M') (As : List Value) (hst : st = As.reverse ++ .ref a :: rest) (hn : ev_np M' As.length)
    (hroom : Nat.ble ((rest.map fun v => v.category).sum + M'.2.2.1 + 11) 64 = true) (hlk : ev_lk (.ref a :: As) lk M'.2.2.1)
    (kk : Ev E M' d 0 lk [] h sz k n (ev_af E M (d + 1) pc pc' ls rest Q)) : Ev E M (d + 1) pc ls st h sz k n Q := by
  intro p e R s m args below meth c H locs cells slots lsr hC hR hL h1 h2 h3 h4 T hT X
  subst hT
  obtain ⟨hd, hpc⟩ := hd
  obtain ⟨hcd, hini, hret, hin, hcode, hlink⟩ := hw
  obtain ⟨mk, methk, ck, q0, q1, q2, q3, q4, q5, q6, q7, q8⟩ := ev_cd_spec hC hcd
  have hpl : e.platform.magicAccessors = ({} : Platform).magicAccessors := by rw [X.admits.platform]
  have hdc : decode c.code pc = .ok (.invokespecial index, 3) := by rw [hC.cd]; exact hd
  have hcode' : (Cond.code M'.1 M'.2.1 M'.2.2.1 none).before args s = true := by rw [← hret]; exact hC.w hcode (ev_gdT rfl) args
  have go : ∃ vm', Stand p E.1 e R s m args below meth c (T.setVm vm') locs cells slots ∧
      ∀ target, (∀ acts, Steps p.tables e below (doInvoke e ((T.setVm vm').setTop (F0 m pc lsr rest)) acts mk (Value.ref a :: As).toArray).1 target) → Steps p.tables e below (T.setTop (F0 m pc lsr st)) target := by
    rcases hlink with hl | ⟨host, hl⟩
    · obtain ⟨mk', methM, cM, kP, vm₁, hnamed, hmethM, hcodeM, -, hlocalsM, -, hkP, -, hW₁, hstep₁⟩ := Steps.initColdArgs (e := e) X.here hC.ex X.warmed hpl hC.ow hini hcd.2.1 (hC.w hl (ev_gdT rfl) args) (hC.w hin (ev_gdT rfl) args) hcode' (f := F0 m pc lsr st) rfl (argsL := As) (rest := rest) hn hst hdc
      cases q0.symm.trans hnamed
      exact ⟨vm₁, X.noted hW₁, hstep₁⟩
    · obtain ⟨mk', methM, cM, kP, vm₁, hnamed, hmethM, hcodeM, -, hlocalsM, -, hkP, -, hW₁, hstep₁⟩ := Steps.initColdArgsNest (e := e) X.here hC.ex X.warmed hpl hC.ow hini hcd.2.1 (hC.w hl ev_gdN args) (hC.w hin (ev_gdT rfl) args) hcode' (f := F0 m pc lsr st) rfl (argsL := As) (rest := rest) hn hst hdc
      cases q0.symm.trans hnamed
      exact ⟨vm₁, X.noted hW₁, hstep₁⟩
  obtain ⟨vm', X', st'⟩ := go
  obtain ⟨t, a1, z⟩ := ev_enter (T := T.setVm vm') (As := Value.ref a :: As) hC hR hL h1 h2 h3 h4 X' hdc hpc q0 q1 q2 q3 q4 q5 q6 q7 hcd.1 (Nat.le_of_ble_eq_true hroom) hlk.1 hlk.2 kk
  exact ⟨t, st' t a1, z⟩
end EVC
end
section
/-! Ev: exceptions: made and thrown, passed on, caught. -/
section RB
variable {p : Program} {l : Launch} {e : Env} {R : Room} {s : State} {m : MethodId} {args : Array Value} {below : List Frame} {meth : Method} {c : Code} {T : State} {locs : List Loc} {cells slots : Nat}
/-- a walk rooted anew at the present state -/
theorem ev_rebase (X : Stand p l e R s m args below meth c T locs cells slots) (hc : cells ≤ R.cells) (hs : slots ≤ R.slots) :
    Stand p l e { frames := R.frames, cells := R.cells - cells, slots := R.slots - slots, locals := R.locals } (T.setFrames (.invoking m args :: below)) m args below meth c T [] 0 0 := by
  obtain ⟨g₀, hfr⟩ := X.frames_eq
  have hcur : T.cur < T.threads.size := State.cur_lt_of_frames hfr
  have hF : (T.setFrames (.invoking m args :: below)).frames = .invoking m args :: below := State.frames_setFrames _ hcur
  have hmeth : (T.setFrames (.invoking m args :: below)).vm.method? m = some meth := X.method'
  obtain ⟨t, ht, -⟩ := State.frames_cons hF
  have hcur' : (T.setFrames (.invoking m args :: below)).cur < (T.setFrames (.invoking m args :: below)).threads.size := State.cur_lt_of_frames hF
  refine ⟨X.admits, X.cas, X.clock, hF, ?_, ?_, hmeth, X.code, X.here, X.tail, State.WarmedH.refl _, by rw [State.stackLimits_setFrames], by rw [State.stackBytes_setFrames], ?_⟩
  · have h := X.room
    have r := State.hasRoom_stack X.room
    have r5 := State.hasRoom_real X.room
    have hz := X.heapSize
    have hu := X.used
    have hk := X.book
    simp only [State.hasRoom, Bool.and_eq_true, decide_eq_true_eq] at h
    rw [State.localsInUse_invoking X.frames X.method X.code] at r r5
    rw [X.frames, List.length_cons] at r
    simp only [State.hasRoom, Bool.and_eq_true, decide_eq_true_eq, hF, State.localsInUse_invoking hF hmeth X.code, List.length_cons, State.stackLimits_setFrames, State.stackBytes_setFrames, X.limits, X.bytes]
    refine ⟨⟨⟨⟨by omega, by omega, by omega, by omega, by omega, h.1.1.1.2.2.2.2.2⟩, ?_⟩, ?_⟩, hk⟩
    · have := h.1.1.2
      show T.heap.size + (R.cells - cells) ≤ _
      omega
    · have := h.1.2
      show T.slotsUsed + (R.slots - slots) ≤ _
      omega
  · have hh := X.hears
    rcases below with _ | ⟨y, r⟩
    · simpa [State.hears, X.warmed.alike.method?] using hh
    · cases y <;> simpa [State.hears, State.code?_eq, X.warmed.alike.method?] using hh
  · have h := (State.sameButNew.refl (T.setFrames (.invoking m args :: below)) ht).setFrames T.frames hcur'
    have e1 : (T.setFrames (.invoking m args :: below)).setFrames T.frames = T := by
      rw [State.setFrames_setFrames]
      obtain ⟨th, hth, -⟩ := State.frames_cons hfr
      exact State.setFrames_self hth
    rw [e1] at h
    exact h
end RB
/-- words of statics: what the heap's old cells say -/
theorem ev_stat_at {s U : State} {A B : Array Value} {C f ds : String} (hW : s.WarmedH U.vm) (hh : ∀ q : Nat, q < s.heap.size → U.heap[q]? = s.heap[q]?) (h : (Cond.isRef (.static C f ds)).before A s = true) : (Cond.isRef (.static C f ds)).before B U = true := by
  have h1 : (Cond.isRef (.static C f ds)).before A (s.setVm U.vm) = true := Cond.before_shiftedFace (State.Shifted.of_warmed hW) _ rfl h
  have hF : (s.setVm U.vm).fieldNamed? C f ds true = U.fieldNamed? C f ds true := rfl
  simp only [Cond.before, Cond.holds, Cond.value, Term.eval, hF] at h1 ⊢
  cases hN : U.fieldNamed? C f ds true with
  | none => simp [hN] at h1
  | some x =>
    obtain ⟨cc, k, slot⟩ := x
    simp only [hN, Option.bind_eq_bind, Option.bind_some] at h1 ⊢
    cases hk : k.statics with
    | none => simp [hk] at h1
    | some a =>
      simp only [hk, Option.bind_some] at h1 ⊢
      have hs : (s.setVm U.vm).heap[a]? = s.heap[a]? := rfl
      rw [hs] at h1
      cases hc : s.heap[a]? with
      | none => simp [hc] at h1
      | some cell =>
        have hlt : a < s.heap.size := (Array.getElem?_eq_some_iff.mp hc).1
        rw [hh a hlt, hc]
        rw [hc] at h1
        exact h1
theorem ev_lstat_at {s U : State} {A B : Array Value} {C f ds : String} (hW : s.WarmedH U.vm) (hh : ∀ q : Nat, q < s.heap.size → U.heap[q]? = s.heap[q]?) (h : (Cond.laysStatic C f ds).before A s = true) : (Cond.laysStatic C f ds).before B U = true := by
  obtain ⟨c, k, i, fd, a, cell, hc, hf, hst, hsta, hcell, hiss, hcls, hlt, hty⟩ := Cond.laysStatic_spec h
  obtain ⟨k', hf', hk'⟩ := State.fieldFound?_setVm (s := s) hW.alike hf
  have hf2 : U.fieldFound? C f ds = some (c, k', i, fd) := by simpa only [State.fieldFound?, State.vm_setVm] using hf'
  have hc2 : U.vm.findClass C = some c := by rw [hW.alike.findClass]; exact hc
  have hlt2 : a < s.heap.size := (Array.getElem?_eq_some_iff.mp hcell).1
  have hcell2 : U.heap[a]? = some cell := by rw [hh a hlt2]; exact hcell
  have e1 : k'.statics = some a := by rw [hk']; exact hsta
  have e2 : k'.staticTypes[fd.slot]? = some fd.type := by rw [hk']; exact hty
  simp [Cond.before, Cond.holds, Cond.value, hc2, hf2, hst, e1, hcell2, hiss, hcls, hlt, e2]
/-- which words stay true, as a program -/
def ev_gdb (w : Cond) : Bool := (w.onTables && w.keeps) || match w with
  | .declares _ => true
  | .castable _ _ => true
  | _ => false
theorem ev_gdb_ok {w : Cond} (h : ev_gdb w = true) : ev_gd w := by
  unfold ev_gdb at h
  rw [Bool.or_eq_true] at h
  rcases h with h | h
  · exact ev_gdT h
  · split at h
    · exact ev_gdD
    · exact ev_gdC
    · cases h
/-- what a site 'throw new X(text)' asks of the tables -/
def ev_wT (own : String) (ix il ic ci : Nat) (X tx : String) (names : List String) : Prop :=
  (∀ w ∈ Bundle.ownAtoms own ic X names, (w ∈ lw_tbl ∧ ev_gdb w = true) ∨ w ∈ ev_stat) ∧ Cond.classLink own ix X ∈ lw_tbl ∧ Cond.initialized X ∈ lw_tbl ∧ Bundle.fit X = true ∧ (∀ q ∈ names, Bundle.fit q = true) ∧ (own, il, tx) ∈ ev_strs ∧ (∃ T : u_T, ev_cl[ci]? = some (X, T, 0)) ∧ names.length ≤ 3
theorem ev_stat_ok {E : ev_E} {U : State} {args : Array Value} (hE : ev_ok E) (hW : E.2.2.2.1.WarmedH U.vm) (hh : ∀ q : Nat, q < ev_b E → U.heap[q]? = E.2.2.2.1.heap[q]?) {w : Cond} (hw : w ∈ ev_stat) : w.before args U = true := by
  have h := hE.2.2.2.2 w hw
  simp only [ev_stat, List.mem_cons, List.not_mem_nil, or_false] at hw
  rcases hw with rfl | rfl | rfl | rfl
  · exact ev_stat_at hW hh h
  · exact ev_stat_at hW hh h
  · exact ev_lstat_at hW hh h
  · exact ev_lstat_at hW hh h
/-- a text constant by ldc_w -/
theorem ev_ldcwS {p : Program} {l : Launch} {e : Env} {R : Room} {s : State} {m : MethodId} {args : Array Value} {below : List Frame} {meth : Method} {c : Code} {H : Heap} {locs : List Loc} {cells slots : Nat} {Q : State → Prop} {cc : ByteArray} {pc : Nat} {ls : Array Slot} {rest : List Value}
    (hexec : p.tables.exec = Jvm.exec) (hb : c.code = cc) {own tx : String} {index q : Nat} (hown : s.vm.findClass own = some m.cls) (hZ : vk_R own index tx q s) (hdg : decode cc pc = .ok (.ldc_w index, 3))
    (k : W p l e R s m args below meth c H locs cells slots Q (F0 m (pc + 3) ls (.ref q :: rest))) : W p l e R s m args below meth c H locs cells slots Q (F0 m pc ls rest) := by
  intro T hT X
  obtain ⟨t, a1, b1⟩ := k T hT X
  refine ⟨t, ?_, b1⟩
  obtain ⟨kk, cf, i, a', hk, hcf, hcp, -, hr, hev'⟩ := Cond.stringRef_spec hown hZ.1
  cases hZ.2.symm.trans hev'
  obtain ⟨k', hk', he⟩ := X.warmed.alike.2.2 _ _ hk
  have hr' : k'.resolved[index]? = some (some (.string q)) := by
    rcases X.warmed.entry hk hk' index with h | ⟨h, -⟩
    · rw [h]; exact hr
    · rw [hr] at h; cases h
  jvm_step X.here [hexec, hb, hdg, ldc_w.wp_string (e := e) (s := T) (f := F0 m pc ls rest) X.here.top hk' (by rw [he]; exact hcf) hcp hr']
  exact a1
section EVT
variable {E : ev_E} {M : ev_M} {d pc : Nat} {ls : List (Option Value)} {st : List Value} {h : ev_h} {sz k n : Nat} {Q : ev_Q}
theorem ev_throwG {p1 p2 p3 p4 p5 ix il ic ci LN : Nat} {LI : Instr} {XX tx : String} {names : List String} (hLI : (LI = .ldc il ∧ LN = 2) ∨ (LI = .ldc_w il ∧ LN = 3)) (hd0 : ev_d M pc (.new ix) 3 p1) (hd1 : ev_d M p1 .dup 1 p2) (hd2 : ev_d M p2 LI LN p3) (hd3 : ev_d M p3 (.invokespecial ic) 3 p4) (hd4 : ev_d M p4 .athrow 1 p5)
    (hnone : M.2.2.2.2 = []) (hw : ev_wT M.1.cls ix il ic ci XX tx names) (hst : Nat.ble (st.map fun v => v.category).sum 64 = true) (hq : Q (.threw sz) (ev_up h sz (.inr (ci, []))) (sz + 1) k n) : Ev E M (d + 8) pc ls st h sz (k + 1) (n + 6) Q := by
  intro p e R s m args below meth c H locs cells slots lsr hC hR hL h1 h2 h3 h4 T hT X
  replace hst := Nat.le_of_ble_eq_true hst
  subst hT
  obtain ⟨hd0, rfl⟩ := hd0
  obtain ⟨hd1, rfl⟩ := hd1
  obtain ⟨hd2, hp3⟩ := hd2
  obtain ⟨hd3, rfl⟩ := hd3
  obtain ⟨hd4, -⟩ := hd4
  obtain ⟨hown, hcl, hini, hfit, hnames, hstr, ⟨TX, hci⟩, hlen⟩ := hw
  have hsz : T.heap.size = sz := hR.2.1
  have X0 := ev_rebase X (by omega) (by omega)
  have hWs : E.2.2.2.1.WarmedH T.vm := State.WarmedH.trans hC.wm X.warmed
  have hxt : c.exceptionTable.toList = [] := by
    have := hC.xt
    rw [hnone] at this
    exact List.map_eq_nil_iff.mp this
  have htr : e.platform.stackTraces = false := by rw [X.admits.platform]; exact hC.1.2.2.2.1
  generalize hs' : T.setFrames (.invoking m args :: below) = s' at X0
  have hvm : s'.vm = T.vm := by rw [← hs']; rfl
  have hhp : s'.heap = T.heap := by rw [← hs']; rfl
  have hWs' : E.2.2.2.1.WarmedH s'.vm := by rw [hvm]; exact hWs
  have wd : ∀ w, w ∈ lw_tbl → ev_gd w → w.before args s' = true := fun w hw hg => hg _ _ _ _ hWs' (hC.1.1 w hw)
  have hbz : ∀ q : Nat, q < ev_b E → s'.heap[q]? = E.2.2.2.1.heap[q]? := by rw [hhp]; exact hR.2.2.2.2.1
  have hown' : s'.vm.findClass M.1.cls = some m.cls := by rw [hvm, X.warmed.alike.findClass]; exact hC.ow
  have hatoms : ∀ w ∈ Bundle.ownAtoms M.1.cls ic XX names, w.before args s' = true := fun w hw => by
    rcases hown w hw with ⟨g1, g2⟩ | g1
    · exact wd w g1 (ev_gdb_ok g2)
    · exact ev_stat_ok hC.1 hWs' hbz g1
  obtain ⟨ad, had⟩ := hC.1.2.2.1 _ hstr
  have hZ : vk_R M.1.cls il tx ad s' := vk_R.warm hWs' had
  have hK' : va_K E.2.1 ev_cl (ev_tys E.2.2.1) s' := va_K.moved hWs'.alike hC.1.2.1
  have hcX : s'.vm.findClass XX = some (E.2.1.1 ci) := (hK'.1 ci _ hci).2.1
  have kw : W p E.1 e { frames := R.frames, cells := R.cells - cells, slots := R.slots - slots, locals := R.locals } s' m args below meth c T.heap [] 0 0
      (fun U => U.status = .running ∧ Ended U below (.threw sz) ∧ s'.WarmedH U.vm ∧ s'.sameButNew ({ U with vm := s'.vm } : State) [] 1 6 ∧ ∃ ce : Cell, U.heap[sz]? = some ce ∧ ce.cls = E.2.1.1 ci ∧ ce.vm = .none) (F0 m pc lsr st) := by
    refine W.newcK hC.ex hC.cd hown' (wd _ hcl (ev_gdT rfl)) (hatoms (.instantiable XX 6) (by simp [Bundle.ownAtoms])) (wd _ hini (ev_gdT rfl)) rfl hd0 (by show 0 + 1 ≤ R.cells - cells; omega) (by show 0 + 6 ≤ R.slots - slots; omega) hcX hsz fun H1 kX hkX e1 z1 o1 => ?_
    refine lv_dup hC.ex hC.cd hd1 rfl ?_
    have tail : W p E.1 e { frames := R.frames, cells := R.cells - cells, slots := R.slots - slots, locals := R.locals } s' m args below meth c H1 [] (0 + 1) (0 + 6)
        (fun U => U.status = .running ∧ Ended U below (.threw sz) ∧ s'.WarmedH U.vm ∧ s'.sameButNew ({ U with vm := s'.vm } : State) [] 1 6 ∧ ∃ ce : Cell, U.heap[sz]? = some ce ∧ ce.cls = E.2.1.1 ci ∧ ce.vm = .none) (F0 m p3 lsr (.ref ad :: .ref sz :: .ref sz :: st)) := by
      intro T2 hT2 X2
      obtain ⟨U, hsteps, hrun, hend, hWU, hsame, ce, hce, K⟩ := X2.ctorThrowS hC.ex htr (own := M.1.cls) (cls := XX) (names := names) (ic := ic) hown' hfit hnames hatoms (fun y hy => by cases hy) hcX hkX (a := sz) (by rw [hT2]; exact e1) (by rw [hhp, hsz]; exact Nat.le_refl _) (msg := .ref ad) rfl
        (g := F0 m p3 lsr (.ref ad :: .ref sz :: .ref sz :: st)) rfl (hL.1.trans hC.ml.symm) rfl rfl (rest := st) rfl (by rw [hC.cd]; exact hd3) (by rw [hC.cd]; exact hd4) (fun x hx => by rw [hxt] at hx; cases hx) (by show names.length + 3 < R.frames; omega)
        (by show 2 * 0 + (1 + (st.map fun v => v.category).sum) + (13 * (names.length + 1) + 42) ≤ R.locals; omega) hC.lk
      exact ⟨U, hsteps, hrun, hend, hWU, hsame, ce, hce, Option.some.inj (K.cls.symm.trans hcX), K.vm⟩
    rcases hLI with ⟨rfl, rfl⟩ | ⟨rfl, rfl⟩
    · exact va_ldcS hC.ex hC.cd hown' hZ hd2 (by rw [hp3]; exact tail)
    · exact ev_ldcwS hC.ex hC.cd hown' hZ hd2 (by rw [hp3]; exact tail)
  obtain ⟨U, hsteps, hrun, hend, hWU, hsame, ce, hce, hce1, hce2⟩ := kw T rfl X0
  obtain ⟨e2, q2, q3, q4, q5, q6⟩ := hsame
  have hold : ∀ q : Nat, q < T.heap.size → U.heap[q]? = T.heap[q]? := by
    intro q hq
    have hcq : s'.heap[q]? = some T.heap[q] := by rw [hhp]; exact Array.getElem?_eq_getElem hq
    obtain ⟨c', g1, g2, g3, g4⟩ := q6 q _ hcq
    have g1' : U.heap[q]? = some c' := g1
    have hsl : c'.slots = (T.heap[q]).slots := Array.ext_getElem? fun i => g4 i (by simp)
    rw [g1', g2, hsl]
    exact (Array.getElem?_eq_getElem hq).symm
  have hUz : U.heap.size = sz + 1 := by
    have a1 : sz < U.heap.size := (Array.getElem?_eq_some_iff.mp hce).1
    have a2 : U.heap.size ≤ s'.heap.size + 1 := q3
    rw [hhp] at a2
    omega
  have hB : T.sameButNew (({ U with vm := s'.vm } : State)) [] 1 6 := by
    have e3 := e2
    rw [← hs', State.setFrames_setFrames] at e3
    subst hs'
    exact ⟨e3, q2, q3, q4, q5, q6⟩
  refine ⟨U, hsteps, .threw sz, ev_up h sz (.inr (ci, [])), sz + 1, k, n, locs ++ [], cells + 1, slots + 6, hrun, hend, ?_, ?_, ?_, by omega, by omega, hq⟩
  · refine State.WarmedH.trans X.warmed ?_
    rw [← hs'] at hWU
    exact hWU
  · exact X.same.trans (hB.setVm s.vm)
  · rw [List.append_nil]
    refine ev_R_new hR ⟨_, hci, ce, hce, hce1, hce2, fun j hj => ?_⟩ hUz (fun q hq => hold q (by omega))
    exact absurd hj (Nat.not_lt_zero _)
theorem ev_throw {p1 p2 p3 p4 p5 ix il ic ci : Nat} {XX tx : String} {names : List String} (hd0 : ev_d M pc (.new ix) 3 p1) (hd1 : ev_d M p1 .dup 1 p2) (hd2 : ev_d M p2 (.ldc il) 2 p3) (hd3 : ev_d M p3 (.invokespecial ic) 3 p4) (hd4 : ev_d M p4 .athrow 1 p5)
    (hnone : M.2.2.2.2 = []) (hw : ev_wT M.1.cls ix il ic ci XX tx names) (hst : Nat.ble (st.map fun v => v.category).sum 64 = true) (hq : Q (.threw sz) (ev_up h sz (.inr (ci, []))) (sz + 1) k n) : Ev E M (d + 8) pc ls st h sz (k + 1) (n + 6) Q := ev_throwG (Or.inl ⟨rfl, rfl⟩) hd0 hd1 hd2 hd3 hd4 hnone hw hst hq
/-- no handler: on to the caller -/
theorem ev_out {a : Nat} (hnone : M.2.2.2.2 = []) (hq : Q (.threw a) h sz k n) : Et E M d pc ls a h sz k n Q := by
  intro p e R s m args below meth c T locs cells slots lsr st hC hR hL h1 h2 h3 h4 X
  have hxt : c.exceptionTable.toList = [] := by
    have := hC.xt
    rw [hnone] at this
    exact List.map_eq_nil_iff.mp this
  obtain ⟨hwalk, hrun, hend, hW, hsame⟩ := X.leaveThrown a (g := F0 m pc lsr st) rfl rfl rfl (fun x hx => by rw [hxt] at hx; cases hx) hC.lk
  exact ⟨_, hwalk, .threw a, h, sz, k, n, locs, cells, slots, hrun, hend, hW, hsame, hR, h3, h4, hq⟩
end EVT
/-- the search of one frame's table, with the tables that it leaves -/
def ev_Fi (e : Env) (s : State) (f : JFrame) (a : Addr) (hd : Handler) (vm' : Vm) : Prop :=
  ∀ (Q : Handler → Jvm.Pre) (E : Jvm.CtlPost) (d : Bool) (acts : List Action), Sem.wp (findHandler f a) Q E e d acts s ↔ Q hd d acts (s.setVm vm')
section EGO
variable {Q : Handler → Jvm.Pre} {E : Jvm.CtlPost} {e : Env} {d : Bool} {acts : List Action} {s : State} {f : JFrame} {a : Addr} {x : ClassFile.ExceptionTableEntry} {t : List ClassFile.ExceptionTableEntry} {c : ClassId} {cell : Cell}
theorem ev_go (hx : covers x f.pc = true) (h0 : x.catchType ≠ 0)
    (hl : s.vm.ClassLinks e.platform f.method.cls x.catchType c) (hcell : s.heap[a]? = some cell) (hobj : ∀ k, cell.vm ≠ .statics k)
    (hk : ∃ k, s.vm.classes[cell.cls]? = some k) (hc : ∃ k, s.vm.classes[c]? = some k) :
    Sem.wp (findHandler.go f a (x :: t)) Q E e d acts s ↔ if s.vm.assignable cell.cls c = true then Q (.found x.handlerPc) d acts (s.setVm (s.vm.noted f.method.cls x.catchType (.cls c))) else Sem.wp (findHandler.go f a t) Q E e d acts (s.setVm (s.vm.noted f.method.cls x.catchType (.cls c))) := by
  simp only [covers] at hx
  obtain ⟨ha, ht⟩ := (resolveClass_links e.toSetting hl).op (op := VmOp.resolveClass f.method.cls x.catchType) rfl
  have hal : s.vm.Alike (s.vm.noted f.method.cls x.catchType (.cls c)) := (Vm.Alike.refl s.vm).noted _ _ _
  obtain ⟨k1, hk1⟩ := hk
  obtain ⟨k2, hk2⟩ := hc
  obtain ⟨k1', hk1', -⟩ := hal.2.2 _ _ hk1
  obtain ⟨k2', hk2', -⟩ := hal.2.2 _ _ hk2
  have hfit' : (s.vm.noted f.method.cls x.catchType (.cls c)).assignable cell.cls c = s.vm.assignable cell.cls c := hal.assignable _ _
  cases hfit : s.vm.assignable cell.cls c <;> rw [hfit] at hfit' <;>
    simp [findHandler.go, hx, h0, ha, ht, hcell, hobj, hk1', hk2', hfit', VmOp.dirties, VmOp.acts]
end EGO
theorem ev_step_catch {e : Env} {s : State} {a : Addr} {f : JFrame} {r : List Frame} {pc : Nat} {vm' : Vm} (hfind : ev_Fi e s f a (.found pc) vm') :
    (stepThrowing e s a (.java f :: r)).Is ((s.setVm vm').setFrames (.java { f with pc := pc, stack := [.ref a] } :: r)) [] := by
  simp only [stepThrowing, searchFrame, vmDo]
  generalize hr : Sem.go _ e false [] s = res
  obtain ⟨as, rfl, ha⟩ := Sem.eq_ok_of hr (a := Handler.found pc) (s' := s.setVm vm') (acts' := []) (by simp [hfind _ _ _ _])
  exact ⟨rfl, ha⟩
theorem ev_caught {tb : Tables} {e : Env} {s target : State} {g : JFrame} {c : Code} {below : List Frame} {a : Addr} (h : At s g.method c below) {pc : Nat} {vm' : Vm}
    (hfind : ev_Fi e ((s.setTop g).pushFrame (.throwing a)) g a (.found pc) vm') (hrest : Steps tb e below ((s.setVm vm').setTop { g with pc := pc, stack := [.ref a] }) target) :
    Steps tb e below ((s.setTop g).pushFrame (.throwing a)) target := by
  obtain ⟨hgo, hw⟩ := h.throwing a
  refine Steps.head hgo hw ?_
  rw [stepThread_throwing (frames_entered h.top _), (ev_step_catch (s := (s.setTop g).pushFrame (.throwing a)) hfind).1]
  obtain ⟨g₀, hg⟩ := Option.isSome_iff_exists.mp h.top
  obtain ⟨r, hr⟩ := State.topJava?_eq_some.mp hg
  have hr' : (s.setVm vm').frames = .java g₀ :: r := hr
  have hsv : ∀ (u : State) (F G : List Frame), ((u.setFrames F).setVm vm').setFrames G = (u.setVm vm').setFrames G := fun u F G => by
    have h1 : (u.setFrames F).setVm vm' = (u.setVm vm').setFrames F := rfl
    rw [h1, State.setFrames_setFrames]
  rw [State.setTop_of_frames _ hr'] at hrest
  rw [hr, List.tail_cons, State.pushFrame, hsv, State.setTop_of_frames _ hr, hsv]
  exact hrest
section EVK
variable {E : ev_E} {M : ev_M} {d pc : Nat} {ls : List (Option Value)} {h : ev_h} {sz k n : Nat} {Q : ev_Q}
/-- the first row takes it -/
theorem ev_catch1 {a ci s1 e1 hp ct N : Nat} {tl : List (Nat × Nat × Nat × Nat)} {X nm : String} {TX : u_T} {fs : List Value} (hx : M.2.2.2.2 = (s1, e1, hp, ct) :: tl) (hcov : (decide (s1 ≤ pc) && decide (pc < e1)) = true) (hct : ct ≠ 0) (hl : Cond.classLink M.1.cls ct nm ∈ lw_tbl) (hci : ev_cl[ci]? = some (X, TX, N)) (hcast : Cond.castable X nm ∈ lw_tbl) (he : h a = some (.inr (ci, fs)))
    (kk : Ev E M d hp ls [.ref a] h sz k n Q) : Et E M d pc ls a h sz k n Q := by
  intro p e R s m args below meth c T locs cells slots lsr st hC hR hL h1 h2 h3 h4 X0
  have hpl : e.platform.magicAccessors = ({} : Platform).magicAccessors := by rw [X0.admits.platform]
  have hxt := hC.xt
  rw [hx] at hxt
  obtain ⟨x, xs, ht, hx1, hx2⟩ := List.map_eq_cons_iff.mp hxt
  have y1 : x.startPc = s1 := congrArg (fun q => q.1) hx1
  have y2 : x.endPc = e1 := congrArg (fun q => q.2.1) hx1
  have y3 : x.handlerPc = hp := congrArg (fun q => q.2.2.1) hx1
  have y4 : x.catchType = ct := congrArg (fun q => q.2.2.2) hx1
  obtain ⟨cT, hcT, hcl⟩ := Cond.classLink_spec hC.ow (hC.w hl (ev_gdT rfl) args) e.platform hpl
  rw [← y4] at hcl
  obtain ⟨dk, _, _, kt, hdk, _, _, _, _, hkt, _, hopen⟩ := hcl.here
  have hW' : s.WarmedH (T.vm.noted m.cls x.catchType (.cls cT)) := X0.warmed.noted hdk hopen (State.rightAt_cls hcl)
  obtain ⟨cell, hcell, hobj, hcls⟩ := va_recv hC.K (ev_P1 (hR.1 a _ he)) hci (q0 := 0) rfl
  obtain ⟨c0, t0, f1, f2, f3⟩ := Cond.castable_spec (hC.w hcast ev_gdC args)
  cases hcls.symm.trans f1
  cases hcT.symm.trans f2
  have hal := X0.warmed.alike
  obtain ⟨kt', hkt', -⟩ := hal.2.2 _ _ hkt
  have hfit : T.vm.assignable cell.cls cT = true := by rw [hal.assignable]; exact f3
  have hfind : ev_Fi e ((T.setTop (F0 m pc lsr st)).pushFrame (.throwing a)) (F0 m pc lsr st) a (.found x.handlerPc) (T.vm.noted m.cls x.catchType (.cls cT)) := by
    intro Q1 E1 d1 acts
    refine (W.findHandler_eq (s := (T.setTop (F0 m pc lsr st)).pushFrame (.throwing a)) (f := F0 m pc lsr st) (meth := meth) (code := c) X0.method' X0.code).trans ?_
    rw [ht]
    refine (ev_go (s := (T.setTop (F0 m pc lsr st)).pushFrame (.throwing a)) (e := e) (f := F0 m pc lsr st) (a := a) (x := x) (t := xs) (c := cT) (cell := cell) (by show (decide (x.startPc ≤ pc) && decide (pc < x.endPc)) = true; rw [y1, y2]; exact hcov) (by rw [y4]; exact hct) (X0.warmed.classLinks hcl) hcell (VmData.ne_statics_of hobj) (Vm.classAt_of_assignable hfit ⟨kt', hkt'⟩) ⟨kt', hkt'⟩).trans ?_
    exact Iff.of_eq (if_pos hfit)
  obtain ⟨t, s1', z⟩ := kk p e R s m args below meth c (T.setVm (T.vm.noted m.cls x.catchType (.cls cT))).heap locs cells slots lsr hC hR hL h1 h2 h3 h4 _ rfl (X0.noted hW')
  refine ⟨t, ev_caught X0.here hfind ?_, z⟩
  rw [y3]
  exact s1'
/-- the first row passes it, the second takes it -/
theorem ev_catch2 {a ci s1 e1 hp1 ct1 s2 e2 hp ct N : Nat} {tl : List (Nat × Nat × Nat × Nat)} {X nm1 nm : String} {TX : u_T} {fs : List Value} (hx : M.2.2.2.2 = (s1, e1, hp1, ct1) :: (s2, e2, hp, ct) :: tl) (hcov1 : (decide (s1 ≤ pc) && decide (pc < e1)) = true) (hcov : (decide (s2 ≤ pc) && decide (pc < e2)) = true) (hct1 : ct1 ≠ 0) (hct : ct ≠ 0) (hl1 : Cond.classLink M.1.cls ct1 nm1 ∈ lw_tbl) (hl : Cond.classLink M.1.cls ct nm ∈ lw_tbl) (hci : ev_cl[ci]? = some (X, TX, N)) (hno : Cond.not (.castable X nm1) ∈ lw_tbl) (hcast : Cond.castable X nm ∈ lw_tbl) (he : h a = some (.inr (ci, fs)))
    (kk : Ev E M d hp ls [.ref a] h sz k n Q) : Et E M d pc ls a h sz k n Q := by
  intro p e R s m args below meth c T locs cells slots lsr st hC hR hL h1 h2 h3 h4 X0
  have hpl : e.platform.magicAccessors = ({} : Platform).magicAccessors := by rw [X0.admits.platform]
  have hxt := hC.xt
  rw [hx] at hxt
  obtain ⟨x1, xs1, ht1, hx11, hx12⟩ := List.map_eq_cons_iff.mp hxt
  obtain ⟨x, xs, ht, hx1, hx2⟩ := List.map_eq_cons_iff.mp hx12
  have w1 : x1.startPc = s1 := congrArg (fun q => q.1) hx11
  have w2 : x1.endPc = e1 := congrArg (fun q => q.2.1) hx11
  have w4 : x1.catchType = ct1 := congrArg (fun q => q.2.2.2) hx11
  have y1 : x.startPc = s2 := congrArg (fun q => q.1) hx1
  have y2 : x.endPc = e2 := congrArg (fun q => q.2.1) hx1
  have y3 : x.handlerPc = hp := congrArg (fun q => q.2.2.1) hx1
  have y4 : x.catchType = ct := congrArg (fun q => q.2.2.2) hx1
  obtain ⟨c1, hc1, hcl1⟩ := Cond.classLink_spec hC.ow (hC.w hl1 (ev_gdT rfl) args) e.platform hpl
  rw [← w4] at hcl1
  obtain ⟨cT, hcT, hcl⟩ := Cond.classLink_spec hC.ow (hC.w hl (ev_gdT rfl) args) e.platform hpl
  rw [← y4] at hcl
  obtain ⟨dk1, _, _, kt1, hdk1, _, _, _, _, hkt1, _, hopen1⟩ := hcl1.here
  obtain ⟨dk, _, _, kt, hdk, _, _, _, _, hkt, _, hopen⟩ := hcl.here
  have hW1 : s.WarmedH (T.vm.noted m.cls x1.catchType (.cls c1)) := X0.warmed.noted hdk1 hopen1 (State.rightAt_cls hcl1)
  have hW' : s.WarmedH ((T.vm.noted m.cls x1.catchType (.cls c1)).noted m.cls x.catchType (.cls cT)) := hW1.noted hdk hopen (State.rightAt_cls hcl)
  obtain ⟨cell, hcell, hobj, hcls⟩ := va_recv hC.K (ev_P1 (hR.1 a _ he)) hci (q0 := 0) rfl
  obtain ⟨c0, t0, f1, f2, f3⟩ := Cond.castable_spec (hC.w hcast ev_gdC args)
  cases hcls.symm.trans f1
  cases hcT.symm.trans f2
  obtain ⟨c0', t0', g1, g2, g3⟩ := hC.nc hno
  cases hcls.symm.trans g1
  cases hc1.symm.trans g2
  have hal := X0.warmed.alike
  obtain ⟨kt1', hkt1', -⟩ := hal.2.2 _ _ hkt1
  obtain ⟨kt', hkt', -⟩ := hal.2.2 _ _ hkt
  obtain ⟨kt2, hkt2, -⟩ := hW1.alike.2.2 _ _ hkt
  have hfitT : T.vm.assignable cell.cls cT = true := by rw [hal.assignable]; exact f3
  have hnofit : ¬ T.vm.assignable cell.cls c1 = true := by rw [hal.assignable, g3]; decide
  have hfit : (T.vm.noted m.cls x1.catchType (.cls c1)).assignable cell.cls cT = true := by rw [hW1.alike.assignable]; exact f3
  have hfind : ev_Fi e ((T.setTop (F0 m pc lsr st)).pushFrame (.throwing a)) (F0 m pc lsr st) a (.found x.handlerPc) ((T.vm.noted m.cls x1.catchType (.cls c1)).noted m.cls x.catchType (.cls cT)) := by
    intro Q1 E1 d1 acts
    refine (W.findHandler_eq (s := (T.setTop (F0 m pc lsr st)).pushFrame (.throwing a)) (f := F0 m pc lsr st) (meth := meth) (code := c) X0.method' X0.code).trans ?_
    rw [ht1, ht]
    refine (ev_go (s := (T.setTop (F0 m pc lsr st)).pushFrame (.throwing a)) (e := e) (f := F0 m pc lsr st) (a := a) (x := x1) (t := x :: xs) (c := c1) (cell := cell) (by show (decide (x1.startPc ≤ pc) && decide (pc < x1.endPc)) = true; rw [w1, w2]; exact hcov1) (by rw [w4]; exact hct1) (X0.warmed.classLinks hcl1) hcell (VmData.ne_statics_of hobj) (Vm.classAt_of_assignable hfitT ⟨kt', hkt'⟩) ⟨kt1', hkt1'⟩).trans ?_
    refine (Iff.of_eq (if_neg hnofit)).trans ?_
    refine (ev_go (s := ((T.setTop (F0 m pc lsr st)).pushFrame (.throwing a)).setVm (T.vm.noted m.cls x1.catchType (.cls c1))) (e := e) (f := F0 m pc lsr st) (a := a) (x := x) (t := xs) (c := cT) (cell := cell) (by show (decide (x.startPc ≤ pc) && decide (pc < x.endPc)) = true; rw [y1, y2]; exact hcov) (by rw [y4]; exact hct) (hW1.classLinks hcl) hcell (VmData.ne_statics_of hobj) (Vm.classAt_of_assignable hfit ⟨kt2, hkt2⟩) ⟨kt2, hkt2⟩).trans ?_
    exact Iff.of_eq (if_pos hfit)
  obtain ⟨t, s1', z⟩ := kk p e R s m args below meth c (T.setVm ((T.vm.noted m.cls x1.catchType (.cls c1)).noted m.cls x.catchType (.cls cT))).heap locs cells slots lsr hC hR hL h1 h2 h3 h4 _ rfl (X0.noted hW')
  refine ⟨t, ev_caught X0.here hfind ?_, z⟩
  rw [y3]
  exact s1'
end EVK
end
section
/-! Ev: Object's constructor, instanceof, checkcast, switches, comparisons of longs, arraycopy. -/
section EVX
variable {E : ev_E} {M : ev_M} {d pc pc' : Nat} {ls : List (Option Value)} {st : List Value} {h : ev_h} {sz k n : Nat} {Q : ev_Q}
def ev_wO (own : String) (index : Nat) : Prop := Cond.methodLink own index Lib.objectInit ∈ lw_tbl ∧ Cond.instanceMethod Lib.objectInit ∈ lw_tbl ∧ Cond.code Lib.objectInit ⟨#[0xb1]⟩ 1 none ∈ lw_tbl
theorem ev_obj {index a : Nat} (hd : ev_d M pc (.invokespecial index) 3 pc') (hw : ev_wO M.1.cls index) (hst : Nat.ble (st.map fun v => v.category).sum 50 = true) (kk : Ev E M (d + 1) pc' ls st h sz k n Q) : Ev E M (d + 1) pc ls (.ref a :: st) h sz k n Q := by
  obtain ⟨hd, rfl⟩ := hd
  replace hst := Nat.le_of_ble_eq_true hst
  intro p e R s m args below meth c H locs cells slots lsr hC hR hL h1 h2 h3 h4
  exact W.objInit hC.ex hC.cd hC.ow (hC.w hw.1 (ev_gdT rfl) args) (hC.w hw.2.1 (ev_gdT rfl) args) (hC.w hw.2.2 (ev_gdT rfl) args) rfl (hL.1.trans hC.ml.symm) rfl hd (by omega) (by show 2 * 0 + (st.map fun v => v.category).sum + 12 ≤ R.locals; omega)
    (kk p e R s m args below meth c H locs cells slots lsr hC hR hL h1 h2 h3 h4)
theorem ev_instY {index a ci N : Nat} {C nm : String} {T : u_T} {fs : List Value} (hd : ev_d M pc (.instanceof index) 3 pc') (hl : Cond.classLink M.1.cls index nm ∈ lw_tbl) (hc : ev_cl[ci]? = some (C, T, N)) (hcast : C = nm ∨ Cond.castable C nm ∈ lw_tbl) (he : h a = some (oB ci fs))
    (kk : Ev E M d pc' ls (.int 1 :: st) h sz k n Q) : Ev E M d pc ls (.ref a :: st) h sz k n Q := by
  obtain ⟨hd, rfl⟩ := hd
  intro p e R s m args below meth c H locs cells slots lsr hC hR hL h1 h2 h3 h4
  have kw := kk p e R s m args below meth c H locs cells slots lsr hC hR hL h1 h2 h3 h4
  have hr := va_recv hC.K (ev_P1 (hR.1 a _ he)) hc (q0 := 0) rfl
  rcases hcast with rfl | hcast
  · exact va_instS hC.ex hC.cd hC.ow (hC.w hl (ev_gdT rfl) args) (hC.K.1 ci _ hc).2 hr hd kw
  · exact va_instY hC.ex hC.cd hC.ow (hC.w hl (ev_gdT rfl) args) (va_Nw.of rfl (hC.w hcast ev_gdC args)) hr hd kw
theorem ev_instN {index a ci N : Nat} {C nm : String} {T : u_T} {fs : List Value} (hd : ev_d M pc (.instanceof index) 3 pc') (hl : Cond.classLink M.1.cls index nm ∈ lw_tbl) (hc : ev_cl[ci]? = some (C, T, N)) (hno : Cond.not (.castable C nm) ∈ lw_tbl) (he : h a = some (oB ci fs))
    (kk : Ev E M d pc' ls (.int 0 :: st) h sz k n Q) : Ev E M d pc ls (.ref a :: st) h sz k n Q := by
  obtain ⟨hd, rfl⟩ := hd
  intro p e R s m args below meth c H locs cells slots lsr hC hR hL h1 h2 h3 h4
  have kw := kk p e R s m args below meth c H locs cells slots lsr hC hR hL h1 h2 h3 h4
  exact va_instNo hC.ex hC.cd hC.ow (hC.w hl (ev_gdT rfl) args) (hC.nc hno) (va_recv hC.K (ev_P1 (hR.1 a _ he)) hc (q0 := 0) rfl) hd kw
theorem ev_cast {index a ci N : Nat} {C nm : String} {T : u_T} {fs : List Value} (hd : ev_d M pc (.checkcast index) 3 pc') (hl : Cond.classLink M.1.cls index nm ∈ lw_tbl) (hc : ev_cl[ci]? = some (C, T, N)) (hcast : C = nm ∨ Cond.castable C nm ∈ lw_tbl) (he : h a = some (oB ci fs))
    (kk : Ev E M d pc' ls (.ref a :: st) h sz k n Q) : Ev E M d pc ls (.ref a :: st) h sz k n Q := by
  obtain ⟨hd, rfl⟩ := hd
  intro p e R s m args below meth c H locs cells slots lsr hC hR hL h1 h2 h3 h4
  have kw := kk p e R s m args below meth c H locs cells slots lsr hC hR hL h1 h2 h3 h4
  have hr := va_recv hC.K (ev_P1 (hR.1 a _ he)) hc (q0 := 0) rfl
  rcases hcast with rfl | hcast
  · exact va_castS hC.ex hC.cd hC.ow (hC.w hl (ev_gdT rfl) args) (hC.K.1 ci _ hc).2 hr hd kw
  · exact va_castY hC.ex hC.cd hC.ow (hC.w hl (ev_gdT rfl) args) (va_Nw.of rfl (hC.w hcast ev_gdC args)) hr hd kw
theorem ev_lcmp {x y : Int64} (hd : ev_d M pc .lcmp 1 pc') (kk : Ev E M d pc' ls (.int (lg_cmp x y) :: st) h sz k n Q) : Ev E M d pc ls (.long y :: .long x :: st) h sz k n Q := by
  obtain ⟨hd, rfl⟩ := hd
  exact ev_pure (fun hx hb _ kw => W.lcmp hx hb hd kw) kk
theorem ev_tabIn {dflt lo hi off : Int} {offs : Array Int} {len tgt : Nat} {x : Int32} (hd : ev_d M pc (.tableswitch dflt lo hi offs) len pc') (g1 : ¬ x.toInt < lo) (g2 : ¬ hi < x.toInt) (ho : offs[(x.toInt - lo).toNat]? = some off) (ht : (pc : Int) + off = (tgt : Int))
    (kk : Ev E M d tgt ls st h sz k n Q) : Ev E M d pc ls (.int x :: st) h sz k n Q := ev_pure (fun hx hb _ kw => lv_tableIn hx hb hd.1 g1 g2 ho ht kw) kk
theorem ev_tabOut {dflt lo hi : Int} {offs : Array Int} {len tgt : Nat} {x : Int32} (hd : ev_d M pc (.tableswitch dflt lo hi offs) len pc') (g : x.toInt < lo ∨ hi < x.toInt) (ht : (pc : Int) + dflt = (tgt : Int))
    (kk : Ev E M d tgt ls st h sz k n Q) : Ev E M d pc ls (.int x :: st) h sz k n Q := ev_pure (fun hx hb _ kw => lv_tableOut hx hb hd.1 g ht kw) kk
theorem ev_look {dflt off : Int} {ps : Array (Int × Int)} {len tgt : Nat} {x : Int32} (hd : ev_d M pc (.lookupswitch dflt ps) len pc') (hp : (ps.toList.zip (ps.toList.drop 1)).all (fun (a, next) => a.1 < next.1) = true) (ho : Op.lookupswitch.offset ps.toList dflt x.toInt = off) (ht : (pc : Int) + off = (tgt : Int))
    (kk : Ev E M d tgt ls st h sz k n Q) : Ev E M d pc ls (.int x :: st) h sz k n Q := ev_pure (fun hx hb _ kw => lv_lookup hx hb hd.1 hp ho ht kw) kk
def ev_wA (own : String) (index : Nat) : Prop := Cond.methodLink own index arraycopyName ∈ lw_tbl ∧ Cond.native arraycopyName ∈ lw_tbl ∧ Cond.static arraycopyName ∈ lw_tbl ∧ Cond.initialized "java/lang/System" ∈ lw_tbl
/-- arraycopy of ints -/
theorem ev_copy {index a0 a n0 n1 sp dp len : Nat} {f g : Nat → Int32} (hd : ev_d M pc (.invokestatic index) 3 pc') (hw : ev_wA M.1.cls index) (he0 : h a0 = some (iA E n0 f)) (he : h a = some (iA E n1 g)) (hn0 : n0 ≤ 65536) (hn1 : n1 ≤ 65536) (g4 : sp + len ≤ n0) (g5 : dp + len ≤ n1) (hst : Nat.ble (st.map fun v => v.category).sum 16 = true)
    (kk : Ev E M (d + 1) pc' ls st (ev_up h a (iA E n1 (va_cpy f g sp dp len))) sz k n Q) : Ev E M (d + 1) pc ls (.int (nI len) :: .int (nI dp) :: .ref a :: .int (nI sp) :: .ref a0 :: st) h sz k n Q := by
  obtain ⟨hd, rfl⟩ := hd
  replace hst := Nat.le_of_ble_eq_true hst
  intro p e R s m args below meth c H locs cells slots lsr hC hR hL h1 h2 h3 h4 T hT X
  have c1 : (nI sp).toNatClampNeg = sp := nI_clamp (by omega)
  have c2 : (nI dp).toNatClampNeg = dp := nI_clamp (by omega)
  have c3 : (nI len).toNatClampNeg = len := nI_clamp (by omega)
  have hc0 : H[a0]? = some (vp_cell (E.2.2.1 0) (n0, .inl f)) := hR.1 a0 _ he0
  have hc1 : H[a]? = some (vp_cell (E.2.2.1 0) (n1, .inl g)) := hR.1 a _ he
  obtain ⟨-, k0, hk0, cm0, hkk0⟩ := (hC.K.2 0 _ rfl).1 n0 (fun j => .int (f j))
  obtain ⟨-, k1, hk1, cm1, hkk1⟩ := (hC.K.2 0 _ rfl).1 n1 (fun j => .int (g j))
  obtain ⟨vm', X', step⟩ := X.arraycopy hC.ex hC.ow (hC.w hw.1 (ev_gdT rfl) args) (hC.w hw.2.1 (ev_gdT rfl) args) (hC.w hw.2.2.1 (ev_gdT rfl) args) (hC.w hw.2.2.2 (ev_gdT rfl) args) (src := a0) (dst := a) (cs := vp_cell (E.2.2.1 0) (n0, .inl f)) (cd := vp_cell (E.2.2.1 0) (n1, .inl g)) (srcPos := nI sp) (destPos := nI dp) (n := nI len) (by rw [hT]; exact hc0) (by rw [hT]; exact hc1)
    (fun _ h => by cases h) (fun _ h => by cases h) (fun h => by cases h) (fun h => by cases h) hk0 hk1 hkk0 hkk1 rfl (nI_pos (by omega)) (nI_pos (by omega)) (nI_pos (by omega))
    (by rw [nI_toInt (by omega), nI_toInt (by omega)]; show ¬ _ > ((arrV (E.2.2.1 0) n0 (fun j => .int (f j))).slots.size : Int); rw [arrV_size]; omega)
    (by rw [nI_toInt (by omega), nI_toInt (by omega)]; show ¬ _ > ((arrV (E.2.2.1 0) n1 (fun j => .int (g j))).slots.size : Int); rw [arrV_size]; omega)
    (fun vm₁ _ i hi => by
      rw [c3] at hi
      have e0 : (vp_cell (E.2.2.1 0) (n0, .inl f)).slots.getD ((nI sp).toNatClampNeg + i) .null = .int (f (sp + i)) := by
        show (arrV (E.2.2.1 0) n0 (fun j => .int (f j))).slots.getD _ _ = _
        rw [c1, Array.getD_eq_getD_getElem?, arrV_read _ _ (by omega)]
        rfl
      rw [e0]
      exact ⟨rfl, trivial⟩)
    (g := F0 m pc lsr (.int (nI len) :: .int (nI dp) :: .ref a :: .int (nI sp) :: .ref a0 :: st)) rfl (hL.1.trans hC.ml.symm) (rest := st) rfl (by rw [hC.cd]; exact hd) (by omega) (by
      have : nativeFrameWords "java/lang/System" "arraycopy" 5 ≤ 30 := by decide +kernel
      show 2 * 0 + (st.map fun v => v.category).sum + _ ≤ _; omega)
  have e1 : copied (vp_cell (E.2.2.1 0) (n0, .inl f)) (vp_cell (E.2.2.1 0) (n1, .inl g)) (nI sp) (nI dp) (nI len) = vp_cell (E.2.2.1 0) (n1, .inl (va_cpy f g sp dp len)) := by
    have h0 := va_copied (fun z : Int32 => Value.int z) (E.2.2.1 0) (E.2.2.1 0) (n0 := n0) (n1 := n1) (sp := sp) (dp := dp) (n := len) f g g4
    show (arrV (E.2.2.1 0) n1 (fun j => Value.int (g j))).storeRun (nI dp).toNatClampNeg ((arrV (E.2.2.1 0) n0 (fun j => Value.int (f j))).stretch (nI sp).toNatClampNeg (nI len).toNatClampNeg) = _
    rw [c1, c2, c3]
    exact h0
  rw [e1] at X' step
  have hl : a < H.size := (Array.getElem?_eq_some_iff.mp hc1).1
  have hheap : ((T.setVm vm').setCell a (vp_cell (E.2.2.1 0) (n1, .inl (va_cpy f g sp dp len)))).heap = H.setIfInBounds a (vp_cell (E.2.2.1 0) (n1, .inl (va_cpy f g sp dp len))) := by rw [← hT]; rfl
  have oq : ∀ q : Nat, q ≠ a → (H.setIfInBounds a (vp_cell (E.2.2.1 0) (n1, .inl (va_cpy f g sp dp len))))[q]? = H[q]? := fun q hq => by simp [Array.getElem?_setIfInBounds, Ne.symm hq]
  have hR' := ev_R_up (i := 0) (x' := .inl (E.2.2.1 0, n1, .inl (va_cpy f g sp dp len))) hR he (show (H.setIfInBounds a _)[a]? = some _ by simp [Array.getElem?_setIfInBounds, hl]) (by simp) oq
  obtain ⟨t, a1, b1⟩ := kk p e R s m args below meth c _ _ cells slots lsr hC ⟨hR'.1, hR'.2.1, hR'.2.2.1, hR'.2.2.2.1, hR'.2.2.2.2.1, fun q hq => by
      rcases List.mem_append.mp hq with h | h
      · exact hR.2.2.2.2.2 q h
      · obtain ⟨z, -, hz⟩ := List.mem_map.mp h
        rw [← hz]
        exact hR.2.2.2.1 a _ he⟩ hL h1 h2 h3 h4 _ hheap X'
  exact ⟨t, step t a1, b1⟩
end EVX
theorem nI_mul (a b : Nat) : nI a * nI b = nI (a * b) := (Int32.ofNat_mul a b).symm
theorem bz0 : narrow .boolean (.int (nI 0)) = .int (nI 0) := by decide +kernel
theorem bz1 : narrow .boolean (.int (nI 1)) = .int (nI 1) := by decide +kernel
theorem nI_sub {a b : Nat} (h : b ≤ a) : nI a - nI b = nI (a - b) := by
  have h1 : nI (a - b) + nI b = nI a := by rw [nI_add, Nat.sub_add_cancel h]
  rw [← h1]
  simp
theorem nI_sub1 (a : Nat) : nI (a + 1) - nI 1 = nI a := nI_sub (by omega)
/-- truth as an int -/
def b2 (b : Bool) : Int32 := if b = true then nI 1 else nI 0
theorem b2_n (b : Bool) : narrow .boolean (.int (b2 b)) = .int (b2 b) := by cases b <;> decide +kernel
theorem b2_t : b2 true = nI 1 := rfl
theorem b2_f : b2 false = nI 0 := rfl
theorem b2_0 {b : Bool} : b2 b = 0 ↔ b = false := by cases b <;> simp [b2] <;> decide +kernel
end
section
/-! Methods and sites (written by gen_lean.py). -/
theorem gd_PT : ev_good "PreferTable" T_PT 11 := ⟨by decide +kernel, ⟨ty_PT, by decide +kernel⟩, by decide +kernel⟩
theorem gd_Rows : ev_good "PreferTable$Rows" T_Rows 4 := ⟨by decide +kernel, ⟨ty_Rows, by decide +kernel⟩, by decide +kernel⟩
theorem gd_RowList : ev_good "PreferTable$RowList" T_RowList 2 := ⟨by decide +kernel, ⟨ty_RowList, by decide +kernel⟩, by decide +kernel⟩
theorem gd_Conditions : ev_good "PreferTable$Conditions" T_Conditions 4 := ⟨by decide +kernel, ⟨ty_Conditions, by decide +kernel⟩, by decide +kernel⟩
theorem gd_Question : ev_good "PreferTable$Question" T_Question 5 := ⟨by decide +kernel, ⟨ty_Question, by decide +kernel⟩, by decide +kernel⟩
theorem gd_Contest : ev_good "PreferTable$Contest" T_Contest 3 := ⟨by decide +kernel, ⟨ty_Contest, by decide +kernel⟩, by decide +kernel⟩
theorem gd_ValueOrder : ev_good "PreferTable$ValueOrder" T_ValueOrder 7 := ⟨by decide +kernel, ⟨ty_ValueOrder, by decide +kernel⟩, by decide +kernel⟩
theorem gd_Layers : ev_good "PreferTable$Layers" T_Layers 6 := ⟨by decide +kernel, ⟨ty_Layers, by decide +kernel⟩, by decide +kernel⟩
theorem gd_Graph : ev_good "PreferTable$Graph" T_Graph 7 := ⟨by decide +kernel, ⟨ty_Graph, by decide +kernel⟩, by decide +kernel⟩
theorem gd_Term : ev_good "PreferTable$Term" T_Term 6 := ⟨by decide +kernel, ⟨ty_Term, by decide +kernel⟩, by decide +kernel⟩
theorem gd_Md : ev_good "PreferTableModel" T_Md 34 := ⟨by decide +kernel, ⟨ty_Md, by decide +kernel⟩, by decide +kernel⟩
theorem wc_PT_init : Cond.code m_PT_init.1 m_PT_init.2.1 m_PT_init.2.2.1 m_PT_init.2.2.2.1 ∈ lw_tbl := wd_25
theorem cd_PT_init : ev_cd m_PT_init := ⟨by decide +kernel, by decide +kernel, Or.inl ⟨wd_25, rfl⟩⟩
theorem wc_Rows_init : Cond.code m_Rows_init.1 m_Rows_init.2.1 m_Rows_init.2.2.1 m_Rows_init.2.2.2.1 ∈ lw_tbl := wd_33
theorem cd_Rows_init : ev_cd m_Rows_init := ⟨by decide +kernel, by decide +kernel, Or.inl ⟨wd_33, rfl⟩⟩
theorem wc_Conditions_init : Cond.code m_Conditions_init.1 m_Conditions_init.2.1 m_Conditions_init.2.2.1 m_Conditions_init.2.2.2.1 ∈ lw_tbl := wd_61
theorem cd_Conditions_init : ev_cd m_Conditions_init := ⟨by decide +kernel, by decide +kernel, Or.inl ⟨wd_61, rfl⟩⟩
theorem wc_Contest_init : Cond.code m_Contest_init.1 m_Contest_init.2.1 m_Contest_init.2.2.1 m_Contest_init.2.2.2.1 ∈ lw_tbl := wd_81
theorem cd_Contest_init : ev_cd m_Contest_init := ⟨by decide +kernel, by decide +kernel, Or.inl ⟨wd_81, rfl⟩⟩
theorem wc_RowList_init : Cond.code m_RowList_init.1 m_RowList_init.2.1 m_RowList_init.2.2.1 m_RowList_init.2.2.2.1 ∈ lw_tbl := wd_98
theorem cd_RowList_init : ev_cd m_RowList_init := ⟨by decide +kernel, by decide +kernel, Or.inl ⟨wd_98, rfl⟩⟩
theorem wc_Question_init : Cond.code m_Question_init.1 m_Question_init.2.1 m_Question_init.2.2.1 m_Question_init.2.2.2.1 ∈ lw_tbl := wd_114
theorem cd_Question_init : ev_cd m_Question_init := ⟨by decide +kernel, by decide +kernel, Or.inl ⟨wd_114, rfl⟩⟩
theorem wc_PT_change : Cond.code m_PT_change.1 m_PT_change.2.1 m_PT_change.2.2.1 m_PT_change.2.2.2.1 ∈ lw_tbl := wd_178
theorem cd_PT_change : ev_cd m_PT_change := ⟨by decide +kernel, by decide +kernel, Or.inl ⟨wd_178, rfl⟩⟩
theorem wc_Rows_placeOf : Cond.code m_Rows_placeOf.1 m_Rows_placeOf.2.1 m_Rows_placeOf.2.2.1 m_Rows_placeOf.2.2.2.1 ∈ lw_tbl := wd_182
theorem cd_Rows_placeOf : ev_cd m_Rows_placeOf := ⟨by decide +kernel, by decide +kernel, Or.inl ⟨wd_182, rfl⟩⟩
theorem wc_PT_isColumn : Cond.code m_PT_isColumn.1 m_PT_isColumn.2.1 m_PT_isColumn.2.2.1 m_PT_isColumn.2.2.2.1 ∈ lw_tbl := wd_185
theorem cd_PT_isColumn : ev_cd m_PT_isColumn := ⟨by decide +kernel, by decide +kernel, Or.inl ⟨wd_185, rfl⟩⟩
theorem wc_PT_remove : Cond.code m_PT_remove.1 m_PT_remove.2.1 m_PT_remove.2.2.1 m_PT_remove.2.2.2.1 ∈ lw_tbl := wd_189
theorem cd_PT_remove : ev_cd m_PT_remove := ⟨by decide +kernel, by decide +kernel, Or.inl ⟨wd_189, rfl⟩⟩
theorem wc_Rows_drop : Cond.code m_Rows_drop.1 m_Rows_drop.2.1 m_Rows_drop.2.2.1 m_Rows_drop.2.2.2.1 ∈ lw_tbl := wd_193
theorem cd_Rows_drop : ev_cd m_Rows_drop := ⟨by decide +kernel, by decide +kernel, Or.inl ⟨wd_193, rfl⟩⟩
theorem wc_PT_layer : Cond.code m_PT_layer.1 m_PT_layer.2.1 m_PT_layer.2.2.1 m_PT_layer.2.2.2.1 ∈ lw_tbl := wd_200
theorem cd_PT_layer : ev_cd m_PT_layer := ⟨by decide +kernel, by decide +kernel, Or.inl ⟨wd_200, rfl⟩⟩
theorem wc_PT_isNode : Cond.code m_PT_isNode.1 m_PT_isNode.2.1 m_PT_isNode.2.2.1 m_PT_isNode.2.2.2.1 ∈ lw_tbl := wd_204
theorem cd_PT_isNode : ev_cd m_PT_isNode := ⟨by decide +kernel, by decide +kernel, Or.inl ⟨wd_204, rfl⟩⟩
theorem wc_PT_isGraded : Cond.code m_PT_isGraded.1 m_PT_isGraded.2.1 m_PT_isGraded.2.2.1 m_PT_isGraded.2.2.2.1 ∈ lw_tbl := wd_207
theorem cd_PT_isGraded : ev_cd m_PT_isGraded := ⟨by decide +kernel, by decide +kernel, Or.inl ⟨wd_207, rfl⟩⟩
theorem wc_PT_free : Cond.code m_PT_free.1 m_PT_free.2.1 m_PT_free.2.2.1 m_PT_free.2.2.2.1 ∈ lw_tbl := wd_212
theorem cd_PT_free : ev_cd m_PT_free := ⟨by decide +kernel, by decide +kernel, Or.inl ⟨wd_212, rfl⟩⟩
theorem wc_Conditions_clear : Cond.code m_Conditions_clear.1 m_Conditions_clear.2.1 m_Conditions_clear.2.2.1 m_Conditions_clear.2.2.2.1 ∈ lw_tbl := wd_216
theorem cd_Conditions_clear : ev_cd m_Conditions_clear := ⟨by decide +kernel, by decide +kernel, Or.inl ⟨wd_216, rfl⟩⟩
theorem wc_PT_answer : Cond.code m_PT_answer.1 m_PT_answer.2.1 m_PT_answer.2.2.1 m_PT_answer.2.2.2.1 ∈ lw_tbl := wd_220
theorem cd_PT_answer : ev_cd m_PT_answer := ⟨by decide +kernel, by decide +kernel, Or.inl ⟨wd_220, rfl⟩⟩
theorem wc_RowList_pick : Cond.code m_RowList_pick.1 m_RowList_pick.2.1 m_RowList_pick.2.2.1 m_RowList_pick.2.2.2.1 ∈ lw_tbl := wd_224
theorem cd_RowList_pick : ev_cd m_RowList_pick := ⟨by decide +kernel, by decide +kernel, Or.inl ⟨wd_224, rfl⟩⟩
theorem wc_RowList_has : Cond.code m_RowList_has.1 m_RowList_has.2.1 m_RowList_has.2.2.1 m_RowList_has.2.2.2.1 ∈ lw_tbl := wd_228
theorem cd_RowList_has : ev_cd m_RowList_has := ⟨by decide +kernel, by decide +kernel, Or.inl ⟨wd_228, rfl⟩⟩
theorem wc_PT_saved : Cond.code m_PT_saved.1 m_PT_saved.2.1 m_PT_saved.2.2.1 m_PT_saved.2.2.2.1 ∈ lw_tbl := wd_232
theorem cd_PT_saved : ev_cd m_PT_saved := ⟨by decide +kernel, by decide +kernel, Or.inl ⟨wd_232, rfl⟩⟩
theorem wc_PT_isSaved : Cond.code m_PT_isSaved.1 m_PT_isSaved.2.1 m_PT_isSaved.2.2.1 m_PT_isSaved.2.2.2.1 ∈ lw_tbl := wd_236
theorem cd_PT_isSaved : ev_cd m_PT_isSaved := ⟨by decide +kernel, by decide +kernel, Or.inl ⟨wd_236, rfl⟩⟩
theorem wc_PT_isQuestion : Cond.code m_PT_isQuestion.1 m_PT_isQuestion.2.1 m_PT_isQuestion.2.2.1 m_PT_isQuestion.2.2.2.1 ∈ lw_tbl := wd_239
theorem cd_PT_isQuestion : ev_cd m_PT_isQuestion := ⟨by decide +kernel, by decide +kernel, Or.inl ⟨wd_239, rfl⟩⟩
theorem wc_PT_keepUp : Cond.code m_PT_keepUp.1 m_PT_keepUp.2.1 m_PT_keepUp.2.2.1 m_PT_keepUp.2.2.2.1 ∈ lw_tbl := wd_243
theorem cd_PT_keepUp : ev_cd m_PT_keepUp := ⟨by decide +kernel, by decide +kernel, Or.inl ⟨wd_243, rfl⟩⟩
theorem wc_Contest_hold : Cond.code m_Contest_hold.1 m_Contest_hold.2.1 m_Contest_hold.2.2.1 m_Contest_hold.2.2.2.1 ∈ lw_tbl := wd_247
theorem cd_Contest_hold : ev_cd m_Contest_hold := ⟨by decide +kernel, by decide +kernel, Or.inl ⟨wd_247, rfl⟩⟩
theorem wc_Contest_letIn : Cond.code m_Contest_letIn.1 m_Contest_letIn.2.1 m_Contest_letIn.2.2.1 m_Contest_letIn.2.2.2.1 ∈ lw_tbl := wd_251
theorem cd_Contest_letIn : ev_cd m_Contest_letIn := ⟨by decide +kernel, by decide +kernel, Or.inl ⟨wd_251, rfl⟩⟩
theorem wc_Conditions_pass : Cond.code m_Conditions_pass.1 m_Conditions_pass.2.1 m_Conditions_pass.2.2.1 m_Conditions_pass.2.2.2.1 ∈ lw_tbl := wd_255
theorem cd_Conditions_pass : ev_cd m_Conditions_pass := ⟨by decide +kernel, by decide +kernel, Or.inl ⟨wd_255, rfl⟩⟩
theorem wc_Conditions_holds : Cond.code m_Conditions_holds.1 m_Conditions_holds.2.1 m_Conditions_holds.2.2.1 m_Conditions_holds.2.2.2.1 ∈ lw_tbl := wd_258
theorem cd_Conditions_holds : ev_cd m_Conditions_holds := ⟨by decide +kernel, by decide +kernel, Or.inl ⟨wd_258, rfl⟩⟩
theorem wc_Contest_isIn : Cond.code m_Contest_isIn.1 m_Contest_isIn.2.1 m_Contest_isIn.2.2.1 m_Contest_isIn.2.2.2.1 ∈ lw_tbl := wd_261
theorem cd_Contest_isIn : ev_cd m_Contest_isIn := ⟨by decide +kernel, by decide +kernel, Or.inl ⟨wd_261, rfl⟩⟩
theorem wc_Order_says : Cond.code m_Order_says.1 m_Order_says.2.1 m_Order_says.2.2.1 m_Order_says.2.2.2.1 ∈ lw_tbl := wd_267
theorem cd_Order_says : ev_cd m_Order_says := ⟨by decide +kernel, by decide +kernel, Or.inl ⟨wd_267, rfl⟩⟩
theorem wc_Graph_prefers : Cond.code m_Graph_prefers.1 m_Graph_prefers.2.1 m_Graph_prefers.2.2.1 m_Graph_prefers.2.2.2.1 ∈ lw_tbl := wd_273
theorem cd_Graph_prefers : ev_cd m_Graph_prefers := ⟨by decide +kernel, by decide +kernel, Or.inl ⟨wd_273, rfl⟩⟩
theorem wc_Graph_leads : Cond.code m_Graph_leads.1 m_Graph_leads.2.1 m_Graph_leads.2.2.1 m_Graph_leads.2.2.2.1 ∈ lw_tbl := wd_278
theorem cd_Graph_leads : ev_cd m_Graph_leads := ⟨by decide +kernel, by decide +kernel, Or.inl ⟨wd_278, rfl⟩⟩
theorem wc_Layers_prefers : Cond.code m_Layers_prefers.1 m_Layers_prefers.2.1 m_Layers_prefers.2.2.1 m_Layers_prefers.2.2.2.1 ∈ lw_tbl := wd_281
theorem cd_Layers_prefers : ev_cd m_Layers_prefers := ⟨by decide +kernel, by decide +kernel, Or.inl ⟨wd_281, rfl⟩⟩
theorem wc_Layers_find : Cond.code m_Layers_find.1 m_Layers_find.2.1 m_Layers_find.2.2.1 m_Layers_find.2.2.2.1 ∈ lw_tbl := wd_286
theorem cd_Layers_find : ev_cd m_Layers_find := ⟨by decide +kernel, by decide +kernel, Or.inl ⟨wd_286, rfl⟩⟩
theorem wc_ValueOrder_prefers : Cond.code m_ValueOrder_prefers.1 m_ValueOrder_prefers.2.1 m_ValueOrder_prefers.2.2.1 m_ValueOrder_prefers.2.2.2.1 ∈ lw_tbl := wd_290
theorem cd_ValueOrder_prefers : ev_cd m_ValueOrder_prefers := ⟨by decide +kernel, by decide +kernel, Or.inl ⟨wd_290, rfl⟩⟩
theorem wc_ValueOrder_distance : Cond.code m_ValueOrder_distance.1 m_ValueOrder_distance.2.1 m_ValueOrder_distance.2.2.1 m_ValueOrder_distance.2.2.2.1 ∈ lw_tbl := wd_295
theorem cd_ValueOrder_distance : ev_cd m_ValueOrder_distance := ⟨by decide +kernel, by decide +kernel, Or.inl ⟨wd_295, rfl⟩⟩
theorem wc_Term_says : Cond.code m_Term_says.1 m_Term_says.2.1 m_Term_says.2.2.1 m_Term_says.2.2.2.1 ∈ lw_tbl := wd_299
theorem cd_Term_says : ev_cd m_Term_says := ⟨by decide +kernel, by decide +kernel, Or.inl ⟨wd_299, rfl⟩⟩
theorem wc_Term_changedOver : Cond.code m_Term_changedOver.1 m_Term_changedOver.2.1 m_Term_changedOver.2.2.1 m_Term_changedOver.2.2.2.1 ∈ lw_tbl := wd_303
theorem cd_Term_changedOver : ev_cd m_Term_changedOver := ⟨by decide +kernel, by decide +kernel, Or.inl ⟨wd_303, rfl⟩⟩
theorem wc_Term_paretoOf : Cond.code m_Term_paretoOf.1 m_Term_paretoOf.2.1 m_Term_paretoOf.2.2.1 m_Term_paretoOf.2.2.2.1 ∈ lw_tbl := wd_306
theorem cd_Term_paretoOf : ev_cd m_Term_paretoOf := ⟨by decide +kernel, by decide +kernel, Or.inl ⟨wd_306, rfl⟩⟩
theorem wc_Contest_note : Cond.code m_Contest_note.1 m_Contest_note.2.1 m_Contest_note.2.2.1 m_Contest_note.2.2.2.1 ∈ lw_tbl := wd_311
theorem cd_Contest_note : ev_cd m_Contest_note := ⟨by decide +kernel, by decide +kernel, Or.inl ⟨wd_311, rfl⟩⟩
theorem wc_Contest_listUnbeaten : Cond.code m_Contest_listUnbeaten.1 m_Contest_listUnbeaten.2.1 m_Contest_listUnbeaten.2.2.1 m_Contest_listUnbeaten.2.2.2.1 ∈ lw_tbl := wd_315
theorem cd_Contest_listUnbeaten : ev_cd m_Contest_listUnbeaten := ⟨by decide +kernel, by decide +kernel, Or.inl ⟨wd_315, rfl⟩⟩
theorem wc_RowList_clear : Cond.code m_RowList_clear.1 m_RowList_clear.2.1 m_RowList_clear.2.2.1 m_RowList_clear.2.2.2.1 ∈ lw_tbl := wd_319
theorem cd_RowList_clear : ev_cd m_RowList_clear := ⟨by decide +kernel, by decide +kernel, Or.inl ⟨wd_319, rfl⟩⟩
theorem wc_RowList_add : Cond.code m_RowList_add.1 m_RowList_add.2.1 m_RowList_add.2.2.1 m_RowList_add.2.2.2.1 ∈ lw_tbl := wd_323
theorem cd_RowList_add : ev_cd m_RowList_add := ⟨by decide +kernel, by decide +kernel, Or.inl ⟨wd_323, rfl⟩⟩
theorem wc_PT_read : Cond.code m_PT_read.1 m_PT_read.2.1 m_PT_read.2.2.1 m_PT_read.2.2.2.1 ∈ lw_tbl := wd_327
theorem cd_PT_read : ev_cd m_PT_read := ⟨by decide +kernel, by decide +kernel, Or.inl ⟨wd_327, rfl⟩⟩
theorem wc_PT_markRead : Cond.code m_PT_markRead.1 m_PT_markRead.2.1 m_PT_markRead.2.2.1 m_PT_markRead.2.2.2.1 ∈ lw_tbl := wd_331
theorem cd_PT_markRead : ev_cd m_PT_markRead := ⟨by decide +kernel, by decide +kernel, Or.inl ⟨wd_331, rfl⟩⟩
theorem wc_RowList_copyFrom : Cond.code m_RowList_copyFrom.1 m_RowList_copyFrom.2.1 m_RowList_copyFrom.2.2.1 m_RowList_copyFrom.2.2.2.1 ∈ lw_tbl := wd_335
theorem cd_RowList_copyFrom : ev_cd m_RowList_copyFrom := ⟨by decide +kernel, by decide +kernel, Or.inl ⟨wd_335, rfl⟩⟩
theorem cd_Lw_row : ev_cd m_Lw_row := ⟨by decide +kernel, by decide +kernel, Or.inr wd_339⟩
theorem wc_PT_row : Cond.code m_PT_row.1 m_PT_row.2.1 m_PT_row.2.2.1 m_PT_row.2.2.2.1 ∈ lw_tbl := wd_344
theorem cd_PT_row : ev_cd m_PT_row := ⟨by decide +kernel, by decide +kernel, Or.inl ⟨wd_344, rfl⟩⟩
theorem wc_Rows_isFull : Cond.code m_Rows_isFull.1 m_Rows_isFull.2.1 m_Rows_isFull.2.2.1 m_Rows_isFull.2.2.2.1 ∈ lw_tbl := wd_348
theorem cd_Rows_isFull : ev_cd m_Rows_isFull := ⟨by decide +kernel, by decide +kernel, Or.inl ⟨wd_348, rfl⟩⟩
theorem wc_Rows_add : Cond.code m_Rows_add.1 m_Rows_add.2.1 m_Rows_add.2.2.1 m_Rows_add.2.2.2.1 ∈ lw_tbl := wd_420
theorem cd_Rows_add : ev_cd m_Rows_add := ⟨by decide +kernel, by decide +kernel, Or.inl ⟨wd_420, rfl⟩⟩
theorem cd_Lw_value : ev_cd m_Lw_value := ⟨by decide +kernel, by decide +kernel, Or.inr wd_423⟩
theorem wc_PT_value : Cond.code m_PT_value.1 m_PT_value.2.1 m_PT_value.2.2.1 m_PT_value.2.2.2.1 ∈ lw_tbl := wd_428
theorem cd_PT_value : ev_cd m_PT_value := ⟨by decide +kernel, by decide +kernel, Or.inl ⟨wd_428, rfl⟩⟩
theorem cd_Lw_order : ev_cd m_Lw_order := ⟨by decide +kernel, by decide +kernel, Or.inr wd_447⟩
theorem wc_PT_order : Cond.code m_PT_order.1 m_PT_order.2.1 m_PT_order.2.2.1 m_PT_order.2.2.2.1 ∈ lw_tbl := wd_452
theorem cd_PT_order : ev_cd m_PT_order := ⟨by decide +kernel, by decide +kernel, Or.inl ⟨wd_452, rfl⟩⟩
theorem wc_PT_newOrder : Cond.code m_PT_newOrder.1 m_PT_newOrder.2.1 m_PT_newOrder.2.2.1 m_PT_newOrder.2.2.2.1 ∈ lw_tbl := wd_473
theorem cd_PT_newOrder : ev_cd m_PT_newOrder := ⟨by decide +kernel, by decide +kernel, Or.inl ⟨wd_473, rfl⟩⟩
theorem wc_Layers_init : Cond.code m_Layers_init.1 m_Layers_init.2.1 m_Layers_init.2.2.1 m_Layers_init.2.2.2.1 ∈ lw_tbl := wd_476
theorem cd_Layers_init : ev_cd m_Layers_init := ⟨by decide +kernel, by decide +kernel, Or.inl ⟨wd_476, rfl⟩⟩
theorem wc_Order_init : Cond.code m_Order_init.1 m_Order_init.2.1 m_Order_init.2.2.1 m_Order_init.2.2.2.1 ∈ lw_tbl := wd_479
theorem cd_Order_init : ev_cd m_Order_init := ⟨by decide +kernel, by decide +kernel, Or.inl ⟨wd_479, rfl⟩⟩
theorem wc_Node_init : Cond.code m_Node_init.1 m_Node_init.2.1 m_Node_init.2.2.1 m_Node_init.2.2.2.1 ∈ lw_tbl := wd_482
theorem cd_Node_init : ev_cd m_Node_init := ⟨by decide +kernel, by decide +kernel, Or.inl ⟨wd_482, rfl⟩⟩
theorem wc_Graph_init : Cond.code m_Graph_init.1 m_Graph_init.2.1 m_Graph_init.2.2.1 m_Graph_init.2.2.2.1 ∈ lw_tbl := wd_520
theorem cd_Graph_init : ev_cd m_Graph_init := ⟨by decide +kernel, by decide +kernel, Or.inl ⟨wd_520, rfl⟩⟩
theorem wc_ValueOrder_init : Cond.code m_ValueOrder_init.1 m_ValueOrder_init.2.1 m_ValueOrder_init.2.2.1 m_ValueOrder_init.2.2.2.1 ∈ lw_tbl := wd_537
theorem cd_ValueOrder_init : ev_cd m_ValueOrder_init := ⟨by decide +kernel, by decide +kernel, Or.inl ⟨wd_537, rfl⟩⟩
theorem wc_PT_addNode : Cond.code m_PT_addNode.1 m_PT_addNode.2.1 m_PT_addNode.2.2.1 m_PT_addNode.2.2.2.1 ∈ lw_tbl := wd_554
theorem cd_PT_addNode : ev_cd m_PT_addNode := ⟨by decide +kernel, by decide +kernel, Or.inl ⟨wd_554, rfl⟩⟩
theorem cd_Lw_edge : ev_cd m_Lw_edge := ⟨by decide +kernel, by decide +kernel, Or.inr wd_557⟩
theorem wc_PT_edge : Cond.code m_PT_edge.1 m_PT_edge.2.1 m_PT_edge.2.2.1 m_PT_edge.2.2.2.1 ∈ lw_tbl := wd_561
theorem cd_PT_edge : ev_cd m_PT_edge := ⟨by decide +kernel, by decide +kernel, Or.inl ⟨wd_561, rfl⟩⟩
theorem wc_PT_addEdge : Cond.code m_PT_addEdge.1 m_PT_addEdge.2.1 m_PT_addEdge.2.2.1 m_PT_addEdge.2.2.2.1 ∈ lw_tbl := wd_566
theorem cd_PT_addEdge : ev_cd m_PT_addEdge := ⟨by decide +kernel, by decide +kernel, Or.inl ⟨wd_566, rfl⟩⟩
theorem wc_Graph_hasEdge : Cond.code m_Graph_hasEdge.1 m_Graph_hasEdge.2.1 m_Graph_hasEdge.2.2.1 m_Graph_hasEdge.2.2.2.1 ∈ lw_tbl := wd_572
theorem cd_Graph_hasEdge : ev_cd m_Graph_hasEdge := ⟨by decide +kernel, by decide +kernel, Or.inl ⟨wd_572, rfl⟩⟩
theorem wc_Graph_join : Cond.code m_Graph_join.1 m_Graph_join.2.1 m_Graph_join.2.2.1 m_Graph_join.2.2.2.1 ∈ lw_tbl := wd_576
theorem cd_Graph_join : ev_cd m_Graph_join := ⟨by decide +kernel, by decide +kernel, Or.inl ⟨wd_576, rfl⟩⟩
theorem cd_Lw_term : ev_cd m_Lw_term := ⟨by decide +kernel, by decide +kernel, Or.inr wd_580⟩
theorem wc_PT_term : Cond.code m_PT_term.1 m_PT_term.2.1 m_PT_term.2.2.1 m_PT_term.2.2.2.1 ∈ lw_tbl := wd_584
theorem cd_PT_term : ev_cd m_PT_term := ⟨by decide +kernel, by decide +kernel, Or.inl ⟨wd_584, rfl⟩⟩
theorem wc_Term_sizeOf : Cond.code m_Term_sizeOf.1 m_Term_sizeOf.2.1 m_Term_sizeOf.2.2.1 m_Term_sizeOf.2.2.2.1 ∈ lw_tbl := wd_588
theorem cd_Term_sizeOf : ev_cd m_Term_sizeOf := ⟨by decide +kernel, by decide +kernel, Or.inl ⟨wd_588, rfl⟩⟩
theorem wc_Term_init : Cond.code m_Term_init.1 m_Term_init.2.1 m_Term_init.2.2.1 m_Term_init.2.2.2.1 ∈ lw_tbl := wd_594
theorem cd_Term_init : ev_cd m_Term_init := ⟨by decide +kernel, by decide +kernel, Or.inl ⟨wd_594, rfl⟩⟩
theorem cd_Lw_condition : ev_cd m_Lw_condition := ⟨by decide +kernel, by decide +kernel, Or.inr wd_610⟩
theorem wc_PT_condition : Cond.code m_PT_condition.1 m_PT_condition.2.1 m_PT_condition.2.2.1 m_PT_condition.2.2.2.1 ∈ lw_tbl := wd_614
theorem cd_PT_condition : ev_cd m_PT_condition := ⟨by decide +kernel, by decide +kernel, Or.inl ⟨wd_614, rfl⟩⟩
theorem wc_Conditions_add : Cond.code m_Conditions_add.1 m_Conditions_add.2.1 m_Conditions_add.2.2.1 m_Conditions_add.2.2.2.1 ∈ lw_tbl := wd_620
theorem cd_Conditions_add : ev_cd m_Conditions_add := ⟨by decide +kernel, by decide +kernel, Or.inl ⟨wd_620, rfl⟩⟩
theorem cd_Lw_compare : ev_cd m_Lw_compare := ⟨by decide +kernel, by decide +kernel, Or.inr wd_623⟩
theorem wc_PT_compare : Cond.code m_PT_compare.1 m_PT_compare.2.1 m_PT_compare.2.2.1 m_PT_compare.2.2.2.1 ∈ lw_tbl := wd_627
theorem cd_PT_compare : ev_cd m_PT_compare := ⟨by decide +kernel, by decide +kernel, Or.inl ⟨wd_627, rfl⟩⟩
theorem cd_Lw_best : ev_cd m_Lw_best := ⟨by decide +kernel, by decide +kernel, Or.inr wd_632⟩
theorem wc_PT_best : Cond.code m_PT_best.1 m_PT_best.2.1 m_PT_best.2.2.1 m_PT_best.2.2.2.1 ∈ lw_tbl := wd_636
theorem cd_PT_best : ev_cd m_PT_best := ⟨by decide +kernel, by decide +kernel, Or.inl ⟨wd_636, rfl⟩⟩
theorem cd_Lw_grouped : ev_cd m_Lw_grouped := ⟨by decide +kernel, by decide +kernel, Or.inr wd_640⟩
theorem wc_PT_grouped : Cond.code m_PT_grouped.1 m_PT_grouped.2.1 m_PT_grouped.2.2.1 m_PT_grouped.2.2.2.1 ∈ lw_tbl := wd_644
theorem cd_PT_grouped : ev_cd m_PT_grouped := ⟨by decide +kernel, by decide +kernel, Or.inl ⟨wd_644, rfl⟩⟩
theorem wc_Contest_forgetOtherGroups : Cond.code m_Contest_forgetOtherGroups.1 m_Contest_forgetOtherGroups.2.1 m_Contest_forgetOtherGroups.2.2.1 m_Contest_forgetOtherGroups.2.2.2.1 ∈ lw_tbl := wd_649
theorem cd_Contest_forgetOtherGroups : ev_cd m_Contest_forgetOtherGroups := ⟨by decide +kernel, by decide +kernel, Or.inl ⟨wd_649, rfl⟩⟩
theorem cd_Lw_top : ev_cd m_Lw_top := ⟨by decide +kernel, by decide +kernel, Or.inr wd_652⟩
theorem wc_PT_top : Cond.code m_PT_top.1 m_PT_top.2.1 m_PT_top.2.2.1 m_PT_top.2.2.2.1 ∈ lw_tbl := wd_656
theorem cd_PT_top : ev_cd m_PT_top := ⟨by decide +kernel, by decide +kernel, Or.inl ⟨wd_656, rfl⟩⟩
theorem wc_Contest_rank : Cond.code m_Contest_rank.1 m_Contest_rank.2.1 m_Contest_rank.2.2.1 m_Contest_rank.2.2.2.1 ∈ lw_tbl := wd_661
theorem cd_Contest_rank : ev_cd m_Contest_rank := ⟨by decide +kernel, by decide +kernel, Or.inl ⟨wd_661, rfl⟩⟩
theorem wc_Contest_setLevel : Cond.code m_Contest_setLevel.1 m_Contest_setLevel.2.1 m_Contest_setLevel.2.2.1 m_Contest_setLevel.2.2.2.1 ∈ lw_tbl := wd_665
theorem cd_Contest_setLevel : ev_cd m_Contest_setLevel := ⟨by decide +kernel, by decide +kernel, Or.inl ⟨wd_665, rfl⟩⟩
theorem wc_Contest_unbeatenAmong : Cond.code m_Contest_unbeatenAmong.1 m_Contest_unbeatenAmong.2.1 m_Contest_unbeatenAmong.2.2.1 m_Contest_unbeatenAmong.2.2.2.1 ∈ lw_tbl := wd_669
theorem cd_Contest_unbeatenAmong : ev_cd m_Contest_unbeatenAmong := ⟨by decide +kernel, by decide +kernel, Or.inl ⟨wd_669, rfl⟩⟩
theorem wc_Contest_listFirst : Cond.code m_Contest_listFirst.1 m_Contest_listFirst.2.1 m_Contest_listFirst.2.2.1 m_Contest_listFirst.2.2.2.1 ∈ lw_tbl := wd_673
theorem cd_Contest_listFirst : ev_cd m_Contest_listFirst := ⟨by decide +kernel, by decide +kernel, Or.inl ⟨wd_673, rfl⟩⟩
theorem cd_Lw_level : ev_cd m_Lw_level := ⟨by decide +kernel, by decide +kernel, Or.inr wd_676⟩
theorem wc_PT_level : Cond.code m_PT_level.1 m_PT_level.2.1 m_PT_level.2.2.1 m_PT_level.2.2.2.1 ∈ lw_tbl := wd_680
theorem cd_PT_level : ev_cd m_PT_level := ⟨by decide +kernel, by decide +kernel, Or.inl ⟨wd_680, rfl⟩⟩
theorem cd_Lw_reason : ev_cd m_Lw_reason := ⟨by decide +kernel, by decide +kernel, Or.inr wd_683⟩
theorem wc_PT_reason : Cond.code m_PT_reason.1 m_PT_reason.2.1 m_PT_reason.2.2.1 m_PT_reason.2.2.2.1 ∈ lw_tbl := wd_687
theorem cd_PT_reason : ev_cd m_PT_reason := ⟨by decide +kernel, by decide +kernel, Or.inl ⟨wd_687, rfl⟩⟩
theorem wc_PT_walkToDecider : Cond.code m_PT_walkToDecider.1 m_PT_walkToDecider.2.1 m_PT_walkToDecider.2.2.1 m_PT_walkToDecider.2.2.2.1 ∈ lw_tbl := wd_690
theorem cd_PT_walkToDecider : ev_cd m_PT_walkToDecider := ⟨by decide +kernel, by decide +kernel, Or.inl ⟨wd_690, rfl⟩⟩
theorem wc_Term_partThatDecides : Cond.code m_Term_partThatDecides.1 m_Term_partThatDecides.2.1 m_Term_partThatDecides.2.2.1 m_Term_partThatDecides.2.2.2.1 ∈ lw_tbl := wd_694
theorem cd_Term_partThatDecides : ev_cd m_Term_partThatDecides := ⟨by decide +kernel, by decide +kernel, Or.inl ⟨wd_694, rfl⟩⟩
theorem cd_Lw_save : ev_cd m_Lw_save := ⟨by decide +kernel, by decide +kernel, Or.inr wd_697⟩
theorem wc_PT_save : Cond.code m_PT_save.1 m_PT_save.2.1 m_PT_save.2.2.1 m_PT_save.2.2.2.1 ∈ lw_tbl := wd_701
theorem cd_PT_save : ev_cd m_PT_save := ⟨by decide +kernel, by decide +kernel, Or.inl ⟨wd_701, rfl⟩⟩
theorem wc_Question_ask : Cond.code m_Question_ask.1 m_Question_ask.2.1 m_Question_ask.2.2.1 m_Question_ask.2.2.2.1 ∈ lw_tbl := wd_706
theorem cd_Question_ask : ev_cd m_Question_ask := ⟨by decide +kernel, by decide +kernel, Or.inl ⟨wd_706, rfl⟩⟩
theorem wc_Conditions_copyFrom : Cond.code m_Conditions_copyFrom.1 m_Conditions_copyFrom.2.1 m_Conditions_copyFrom.2.2.1 m_Conditions_copyFrom.2.2.2.1 ∈ lw_tbl := wd_710
theorem cd_Conditions_copyFrom : ev_cd m_Conditions_copyFrom := ⟨by decide +kernel, by decide +kernel, Or.inl ⟨wd_710, rfl⟩⟩
theorem cd_Lw_reduce : ev_cd m_Lw_reduce := ⟨by decide +kernel, by decide +kernel, Or.inr wd_715⟩
theorem wc_PT_reduce : Cond.code m_PT_reduce.1 m_PT_reduce.2.1 m_PT_reduce.2.2.1 m_PT_reduce.2.2.2.1 ∈ lw_tbl := wd_719
theorem cd_PT_reduce : ev_cd m_PT_reduce := ⟨by decide +kernel, by decide +kernel, Or.inl ⟨wd_719, rfl⟩⟩
theorem wc_Order_putReduced : Cond.code m_Order_putReduced.1 m_Order_putReduced.2.1 m_Order_putReduced.2.2.1 m_Order_putReduced.2.2.2.1 ∈ lw_tbl := wd_725
theorem cd_Order_putReduced : ev_cd m_Order_putReduced := ⟨by decide +kernel, by decide +kernel, Or.inl ⟨wd_725, rfl⟩⟩
theorem wc_ValueOrder_putOwn : Cond.code m_ValueOrder_putOwn.1 m_ValueOrder_putOwn.2.1 m_ValueOrder_putOwn.2.2.1 m_ValueOrder_putOwn.2.2.2.1 ∈ lw_tbl := wd_733
theorem cd_ValueOrder_putOwn : ev_cd m_ValueOrder_putOwn := ⟨by decide +kernel, by decide +kernel, Or.inl ⟨wd_733, rfl⟩⟩
theorem wc_Order_putOwn : Cond.code m_Order_putOwn.1 m_Order_putOwn.2.1 m_Order_putOwn.2.2.1 m_Order_putOwn.2.2.2.1 ∈ lw_tbl := wd_734
theorem cd_Order_putOwn : ev_cd m_Order_putOwn := ⟨by decide +kernel, by decide +kernel, Or.inl ⟨wd_734, rfl⟩⟩
theorem wc_Term_putReduced : Cond.code m_Term_putReduced.1 m_Term_putReduced.2.1 m_Term_putReduced.2.2.1 m_Term_putReduced.2.2.2.1 ∈ lw_tbl := wd_738
theorem cd_Term_putReduced : ev_cd m_Term_putReduced := ⟨by decide +kernel, by decide +kernel, Or.inl ⟨wd_738, rfl⟩⟩
theorem wc_Term_reduceDual : Cond.code m_Term_reduceDual.1 m_Term_reduceDual.2.1 m_Term_reduceDual.2.2.1 m_Term_reduceDual.2.2.2.1 ∈ lw_tbl := wd_742
theorem cd_Term_reduceDual : ev_cd m_Term_reduceDual := ⟨by decide +kernel, by decide +kernel, Or.inl ⟨wd_742, rfl⟩⟩
theorem wc_Term_moveBack : Cond.code m_Term_moveBack.1 m_Term_moveBack.2.1 m_Term_moveBack.2.2.1 m_Term_moveBack.2.2.2.1 ∈ lw_tbl := wd_745
theorem cd_Term_moveBack : ev_cd m_Term_moveBack := ⟨by decide +kernel, by decide +kernel, Or.inl ⟨wd_745, rfl⟩⟩
theorem wc_Term_areAlike : Cond.code m_Term_areAlike.1 m_Term_areAlike.2.1 m_Term_areAlike.2.2.1 m_Term_areAlike.2.2.2.1 ∈ lw_tbl := wd_749
theorem cd_Term_areAlike : ev_cd m_Term_areAlike := ⟨by decide +kernel, by decide +kernel, Or.inl ⟨wd_749, rfl⟩⟩
theorem wc_Term_pDecidesAlone : Cond.code m_Term_pDecidesAlone.1 m_Term_pDecidesAlone.2.1 m_Term_pDecidesAlone.2.2.1 m_Term_pDecidesAlone.2.2.2.1 ∈ lw_tbl := wd_753
theorem cd_Term_pDecidesAlone : ev_cd m_Term_pDecidesAlone := ⟨by decide +kernel, by decide +kernel, Or.inl ⟨wd_753, rfl⟩⟩
theorem wc_Term_pullDualOut : Cond.code m_Term_pullDualOut.1 m_Term_pullDualOut.2.1 m_Term_pullDualOut.2.2.1 m_Term_pullDualOut.2.2.2.1 ∈ lw_tbl := wd_756
theorem cd_Term_pullDualOut : ev_cd m_Term_pullDualOut := ⟨by decide +kernel, by decide +kernel, Or.inl ⟨wd_756, rfl⟩⟩
theorem cd_Lw_form : ev_cd m_Lw_form := ⟨by decide +kernel, by decide +kernel, Or.inr wd_760⟩
theorem wc_PT_form : Cond.code m_PT_form.1 m_PT_form.2.1 m_PT_form.2.2.1 m_PT_form.2.2.2.1 ∈ lw_tbl := wd_764
theorem cd_PT_form : ev_cd m_PT_form := ⟨by decide +kernel, by decide +kernel, Or.inl ⟨wd_764, rfl⟩⟩
theorem wc_Md_init : Cond.code m_Md_init.1 m_Md_init.2.1 m_Md_init.2.2.1 m_Md_init.2.2.2.1 ∈ lw_tbl := wd_770
theorem cd_Md_init : ev_cd m_Md_init := ⟨by decide +kernel, by decide +kernel, Or.inl ⟨wd_770, rfl⟩⟩
theorem wc_Md_thrown : Cond.code m_Md_thrown.1 m_Md_thrown.2.1 m_Md_thrown.2.2.1 m_Md_thrown.2.2.2.1 ∈ lw_tbl := wd_879
theorem cd_Md_thrown : ev_cd m_Md_thrown := ⟨by decide +kernel, by decide +kernel, Or.inl ⟨wd_879, rfl⟩⟩
theorem wc_Md_row : Cond.code m_Md_row.1 m_Md_row.2.1 m_Md_row.2.2.1 m_Md_row.2.2.2.1 ∈ lw_tbl := wd_883
theorem cd_Md_row : ev_cd m_Md_row := ⟨by decide +kernel, by decide +kernel, Or.inl ⟨wd_883, rfl⟩⟩
theorem wc_Md_present : Cond.code m_Md_present.1 m_Md_present.2.1 m_Md_present.2.2.1 m_Md_present.2.2.2.1 ∈ lw_tbl := wd_887
theorem cd_Md_present : ev_cd m_Md_present := ⟨by decide +kernel, by decide +kernel, Or.inl ⟨wd_887, rfl⟩⟩
theorem wc_Md_change : Cond.code m_Md_change.1 m_Md_change.2.1 m_Md_change.2.2.1 m_Md_change.2.2.2.1 ∈ lw_tbl := wd_891
theorem cd_Md_change : ev_cd m_Md_change := ⟨by decide +kernel, by decide +kernel, Or.inl ⟨wd_891, rfl⟩⟩
theorem wc_Md_isRow : Cond.code m_Md_isRow.1 m_Md_isRow.2.1 m_Md_isRow.2.2.1 m_Md_isRow.2.2.2.1 ∈ lw_tbl := wd_895
theorem cd_Md_isRow : ev_cd m_Md_isRow := ⟨by decide +kernel, by decide +kernel, Or.inl ⟨wd_895, rfl⟩⟩
theorem wc_Md_isColumn : Cond.code m_Md_isColumn.1 m_Md_isColumn.2.1 m_Md_isColumn.2.2.1 m_Md_isColumn.2.2.2.1 ∈ lw_tbl := wd_898
theorem cd_Md_isColumn : ev_cd m_Md_isColumn := ⟨by decide +kernel, by decide +kernel, Or.inl ⟨wd_898, rfl⟩⟩
theorem wc_Md_remove : Cond.code m_Md_remove.1 m_Md_remove.2.1 m_Md_remove.2.2.1 m_Md_remove.2.2.2.1 ∈ lw_tbl := wd_902
theorem cd_Md_remove : ev_cd m_Md_remove := ⟨by decide +kernel, by decide +kernel, Or.inl ⟨wd_902, rfl⟩⟩
theorem wc_Md_value : Cond.code m_Md_value.1 m_Md_value.2.1 m_Md_value.2.2.1 m_Md_value.2.2.2.1 ∈ lw_tbl := wd_906
theorem cd_Md_value : ev_cd m_Md_value := ⟨by decide +kernel, by decide +kernel, Or.inl ⟨wd_906, rfl⟩⟩
theorem wc_Md_order : Cond.code m_Md_order.1 m_Md_order.2.1 m_Md_order.2.2.1 m_Md_order.2.2.2.1 ∈ lw_tbl := wd_910
theorem cd_Md_order : ev_cd m_Md_order := ⟨by decide +kernel, by decide +kernel, Or.inl ⟨wd_910, rfl⟩⟩
theorem wc_Md_layer : Cond.code m_Md_layer.1 m_Md_layer.2.1 m_Md_layer.2.2.1 m_Md_layer.2.2.2.1 ∈ lw_tbl := wd_914
theorem cd_Md_layer : ev_cd m_Md_layer := ⟨by decide +kernel, by decide +kernel, Or.inl ⟨wd_914, rfl⟩⟩
theorem wc_Md_isNode : Cond.code m_Md_isNode.1 m_Md_isNode.2.1 m_Md_isNode.2.2.1 m_Md_isNode.2.2.2.1 ∈ lw_tbl := wd_918
theorem cd_Md_isNode : ev_cd m_Md_isNode := ⟨by decide +kernel, by decide +kernel, Or.inl ⟨wd_918, rfl⟩⟩
theorem wc_Md_isPlain : Cond.code m_Md_isPlain.1 m_Md_isPlain.2.1 m_Md_isPlain.2.2.1 m_Md_isPlain.2.2.2.1 ∈ lw_tbl := wd_921
theorem cd_Md_isPlain : ev_cd m_Md_isPlain := ⟨by decide +kernel, by decide +kernel, Or.inl ⟨wd_921, rfl⟩⟩
theorem wc_Md_edge : Cond.code m_Md_edge.1 m_Md_edge.2.1 m_Md_edge.2.2.1 m_Md_edge.2.2.2.1 ∈ lw_tbl := wd_925
theorem cd_Md_edge : ev_cd m_Md_edge := ⟨by decide +kernel, by decide +kernel, Or.inl ⟨wd_925, rfl⟩⟩
theorem wc_Md_reached : Cond.code m_Md_reached.1 m_Md_reached.2.1 m_Md_reached.2.2.1 m_Md_reached.2.2.2.1 ∈ lw_tbl := wd_929
theorem cd_Md_reached : ev_cd m_Md_reached := ⟨by decide +kernel, by decide +kernel, Or.inl ⟨wd_929, rfl⟩⟩
theorem wc_Md_term : Cond.code m_Md_term.1 m_Md_term.2.1 m_Md_term.2.2.1 m_Md_term.2.2.2.1 ∈ lw_tbl := wd_933
theorem cd_Md_term : ev_cd m_Md_term := ⟨by decide +kernel, by decide +kernel, Or.inl ⟨wd_933, rfl⟩⟩
theorem wc_Md_compare : Cond.code m_Md_compare.1 m_Md_compare.2.1 m_Md_compare.2.2.1 m_Md_compare.2.2.2.1 ∈ lw_tbl := wd_937
theorem cd_Md_compare : ev_cd m_Md_compare := ⟨by decide +kernel, by decide +kernel, Or.inl ⟨wd_937, rfl⟩⟩
theorem wc_Md_say : Cond.code m_Md_say.1 m_Md_say.2.1 m_Md_say.2.2.1 m_Md_say.2.2.2.1 ∈ lw_tbl := wd_941
theorem cd_Md_say : ev_cd m_Md_say := ⟨by decide +kernel, by decide +kernel, Or.inl ⟨wd_941, rfl⟩⟩
theorem wc_Md_ordered : Cond.code m_Md_ordered.1 m_Md_ordered.2.1 m_Md_ordered.2.2.1 m_Md_ordered.2.2.2.1 ∈ lw_tbl := wd_945
theorem cd_Md_ordered : ev_cd m_Md_ordered := ⟨by decide +kernel, by decide +kernel, Or.inl ⟨wd_945, rfl⟩⟩
theorem wc_Md_byLess : Cond.code m_Md_byLess.1 m_Md_byLess.2.1 m_Md_byLess.2.2.1 m_Md_byLess.2.2.2.1 ∈ lw_tbl := wd_948
theorem cd_Md_byLess : ev_cd m_Md_byLess := ⟨by decide +kernel, by decide +kernel, Or.inl ⟨wd_948, rfl⟩⟩
theorem wc_Md_depth : Cond.code m_Md_depth.1 m_Md_depth.2.1 m_Md_depth.2.2.1 m_Md_depth.2.2.2.1 ∈ lw_tbl := wd_952
theorem cd_Md_depth : ev_cd m_Md_depth := ⟨by decide +kernel, by decide +kernel, Or.inl ⟨wd_952, rfl⟩⟩
theorem wc_Md_graph : Cond.code m_Md_graph.1 m_Md_graph.2.1 m_Md_graph.2.2.1 m_Md_graph.2.2.2.1 ∈ lw_tbl := wd_957
theorem cd_Md_graph : ev_cd m_Md_graph := ⟨by decide +kernel, by decide +kernel, Or.inl ⟨wd_957, rfl⟩⟩
theorem wc_Md_distance : Cond.code m_Md_distance.1 m_Md_distance.2.1 m_Md_distance.2.2.1 m_Md_distance.2.2.2.1 ∈ lw_tbl := wd_961
theorem cd_Md_distance : ev_cd m_Md_distance := ⟨by decide +kernel, by decide +kernel, Or.inl ⟨wd_961, rfl⟩⟩
theorem wc_Md_joined : Cond.code m_Md_joined.1 m_Md_joined.2.1 m_Md_joined.2.2.1 m_Md_joined.2.2.2.1 ∈ lw_tbl := wd_965
theorem cd_Md_joined : ev_cd m_Md_joined := ⟨by decide +kernel, by decide +kernel, Or.inl ⟨wd_965, rfl⟩⟩
theorem wc_Md_pareto : Cond.code m_Md_pareto.1 m_Md_pareto.2.1 m_Md_pareto.2.2.1 m_Md_pareto.2.2.2.1 ∈ lw_tbl := wd_968
theorem cd_Md_pareto : ev_cd m_Md_pareto := ⟨by decide +kernel, by decide +kernel, Or.inl ⟨wd_968, rfl⟩⟩
theorem wc_Md_condition : Cond.code m_Md_condition.1 m_Md_condition.2.1 m_Md_condition.2.2.1 m_Md_condition.2.2.2.1 ∈ lw_tbl := wd_972
theorem cd_Md_condition : ev_cd m_Md_condition := ⟨by decide +kernel, by decide +kernel, Or.inl ⟨wd_972, rfl⟩⟩
theorem wc_Md_free : Cond.code m_Md_free.1 m_Md_free.2.1 m_Md_free.2.2.1 m_Md_free.2.2.2.1 ∈ lw_tbl := wd_976
theorem cd_Md_free : ev_cd m_Md_free := ⟨by decide +kernel, by decide +kernel, Or.inl ⟨wd_976, rfl⟩⟩
theorem wc_Md_best : Cond.code m_Md_best.1 m_Md_best.2.1 m_Md_best.2.2.1 m_Md_best.2.2.2.1 ∈ lw_tbl := wd_980
theorem cd_Md_best : ev_cd m_Md_best := ⟨by decide +kernel, by decide +kernel, Or.inl ⟨wd_980, rfl⟩⟩
theorem wc_Md_mark : Cond.code m_Md_mark.1 m_Md_mark.2.1 m_Md_mark.2.2.1 m_Md_mark.2.2.2.1 ∈ lw_tbl := wd_984
theorem cd_Md_mark : ev_cd m_Md_mark := ⟨by decide +kernel, by decide +kernel, Or.inl ⟨wd_984, rfl⟩⟩
theorem wc_Md_passes : Cond.code m_Md_passes.1 m_Md_passes.2.1 m_Md_passes.2.2.1 m_Md_passes.2.2.2.1 ∈ lw_tbl := wd_988
theorem cd_Md_passes : ev_cd m_Md_passes := ⟨by decide +kernel, by decide +kernel, Or.inl ⟨wd_988, rfl⟩⟩
theorem wc_Md_holds : Cond.code m_Md_holds.1 m_Md_holds.2.1 m_Md_holds.2.2.1 m_Md_holds.2.2.2.1 ∈ lw_tbl := wd_991
theorem cd_Md_holds : ev_cd m_Md_holds := ⟨by decide +kernel, by decide +kernel, Or.inl ⟨wd_991, rfl⟩⟩
theorem wc_Md_answerBest : Cond.code m_Md_answerBest.1 m_Md_answerBest.2.1 m_Md_answerBest.2.2.1 m_Md_answerBest.2.2.2.1 ∈ lw_tbl := wd_995
theorem cd_Md_answerBest : ev_cd m_Md_answerBest := ⟨by decide +kernel, by decide +kernel, Or.inl ⟨wd_995, rfl⟩⟩
theorem wc_Md_grouped : Cond.code m_Md_grouped.1 m_Md_grouped.2.1 m_Md_grouped.2.2.1 m_Md_grouped.2.2.2.1 ∈ lw_tbl := wd_999
theorem cd_Md_grouped : ev_cd m_Md_grouped := ⟨by decide +kernel, by decide +kernel, Or.inl ⟨wd_999, rfl⟩⟩
theorem wc_Md_top : Cond.code m_Md_top.1 m_Md_top.2.1 m_Md_top.2.2.1 m_Md_top.2.2.2.1 ∈ lw_tbl := wd_1003
theorem cd_Md_top : ev_cd m_Md_top := ⟨by decide +kernel, by decide +kernel, Or.inl ⟨wd_1003, rfl⟩⟩
theorem wc_Md_weigh : Cond.code m_Md_weigh.1 m_Md_weigh.2.1 m_Md_weigh.2.2.1 m_Md_weigh.2.2.2.1 ∈ lw_tbl := wd_1007
theorem cd_Md_weigh : ev_cd m_Md_weigh := ⟨by decide +kernel, by decide +kernel, Or.inl ⟨wd_1007, rfl⟩⟩
theorem wc_Md_level : Cond.code m_Md_level.1 m_Md_level.2.1 m_Md_level.2.2.1 m_Md_level.2.2.2.1 ∈ lw_tbl := wd_1011
theorem cd_Md_level : ev_cd m_Md_level := ⟨by decide +kernel, by decide +kernel, Or.inl ⟨wd_1011, rfl⟩⟩
theorem wc_Md_answer : Cond.code m_Md_answer.1 m_Md_answer.2.1 m_Md_answer.2.2.1 m_Md_answer.2.2.2.1 ∈ lw_tbl := wd_1015
theorem cd_Md_answer : ev_cd m_Md_answer := ⟨by decide +kernel, by decide +kernel, Or.inl ⟨wd_1015, rfl⟩⟩
theorem wc_Md_reason : Cond.code m_Md_reason.1 m_Md_reason.2.1 m_Md_reason.2.2.1 m_Md_reason.2.2.2.1 ∈ lw_tbl := wd_1019
theorem cd_Md_reason : ev_cd m_Md_reason := ⟨by decide +kernel, by decide +kernel, Or.inl ⟨wd_1019, rfl⟩⟩
theorem wc_Md_save : Cond.code m_Md_save.1 m_Md_save.2.1 m_Md_save.2.2.1 m_Md_save.2.2.2.1 ∈ lw_tbl := wd_1023
theorem cd_Md_save : ev_cd m_Md_save := ⟨by decide +kernel, by decide +kernel, Or.inl ⟨wd_1023, rfl⟩⟩
theorem wc_Md_readNow : Cond.code m_Md_readNow.1 m_Md_readNow.2.1 m_Md_readNow.2.2.1 m_Md_readNow.2.2.2.1 ∈ lw_tbl := wd_1027
theorem cd_Md_readNow : ev_cd m_Md_readNow := ⟨by decide +kernel, by decide +kernel, Or.inl ⟨wd_1027, rfl⟩⟩
theorem wc_Md_saved : Cond.code m_Md_saved.1 m_Md_saved.2.1 m_Md_saved.2.2.1 m_Md_saved.2.2.2.1 ∈ lw_tbl := wd_1031
theorem cd_Md_saved : ev_cd m_Md_saved := ⟨by decide +kernel, by decide +kernel, Or.inl ⟨wd_1031, rfl⟩⟩
theorem wc_Md_read : Cond.code m_Md_read.1 m_Md_read.2.1 m_Md_read.2.2.1 m_Md_read.2.2.2.1 ∈ lw_tbl := wd_1035
theorem cd_Md_read : ev_cd m_Md_read := ⟨by decide +kernel, by decide +kernel, Or.inl ⟨wd_1035, rfl⟩⟩
theorem wc_Md_reduce : Cond.code m_Md_reduce.1 m_Md_reduce.2.1 m_Md_reduce.2.2.1 m_Md_reduce.2.2.2.1 ∈ lw_tbl := wd_1039
theorem cd_Md_reduce : ev_cd m_Md_reduce := ⟨by decide +kernel, by decide +kernel, Or.inl ⟨wd_1039, rfl⟩⟩
theorem wc_Md_reducedOrder : Cond.code m_Md_reducedOrder.1 m_Md_reducedOrder.2.1 m_Md_reducedOrder.2.2.1 m_Md_reducedOrder.2.2.2.1 ∈ lw_tbl := wd_1043
theorem cd_Md_reducedOrder : ev_cd m_Md_reducedOrder := ⟨by decide +kernel, by decide +kernel, Or.inl ⟨wd_1043, rfl⟩⟩
theorem wc_Md_place : Cond.code m_Md_place.1 m_Md_place.2.1 m_Md_place.2.2.1 m_Md_place.2.2.2.1 ∈ lw_tbl := wd_1047
theorem cd_Md_place : ev_cd m_Md_place := ⟨by decide +kernel, by decide +kernel, Or.inl ⟨wd_1047, rfl⟩⟩
theorem wc_Md_reducedTerm : Cond.code m_Md_reducedTerm.1 m_Md_reducedTerm.2.1 m_Md_reducedTerm.2.2.1 m_Md_reducedTerm.2.2.2.1 ∈ lw_tbl := wd_1051
theorem cd_Md_reducedTerm : ev_cd m_Md_reducedTerm := ⟨by decide +kernel, by decide +kernel, Or.inl ⟨wd_1051, rfl⟩⟩
theorem wc_Md_dual : Cond.code m_Md_dual.1 m_Md_dual.2.1 m_Md_dual.2.2.1 m_Md_dual.2.2.2.1 ∈ lw_tbl := wd_1055
theorem cd_Md_dual : ev_cd m_Md_dual := ⟨by decide +kernel, by decide +kernel, Or.inl ⟨wd_1055, rfl⟩⟩
theorem wc_Md_write : Cond.code m_Md_write.1 m_Md_write.2.1 m_Md_write.2.2.1 m_Md_write.2.2.2.1 ∈ lw_tbl := wd_1059
theorem cd_Md_write : ev_cd m_Md_write := ⟨by decide +kernel, by decide +kernel, Or.inl ⟨wd_1059, rfl⟩⟩
theorem wc_Md_emit : Cond.code m_Md_emit.1 m_Md_emit.2.1 m_Md_emit.2.2.1 m_Md_emit.2.2.2.1 ∈ lw_tbl := wd_1063
theorem cd_Md_emit : ev_cd m_Md_emit := ⟨by decide +kernel, by decide +kernel, Or.inl ⟨wd_1063, rfl⟩⟩
theorem wc_Md_form : Cond.code m_Md_form.1 m_Md_form.2.1 m_Md_form.2.2.1 m_Md_form.2.2.2.1 ∈ lw_tbl := wd_1067
theorem cd_Md_form : ev_cd m_Md_form := ⟨by decide +kernel, by decide +kernel, Or.inl ⟨wd_1067, rfl⟩⟩
theorem np_PT_init : ev_np m_PT_init 0 := ev_np_of (by decide +kernel)
theorem np_Rows_init : ev_np m_Rows_init 0 := ev_np_of (by decide +kernel)
theorem np_Conditions_init : ev_np m_Conditions_init 0 := ev_np_of (by decide +kernel)
theorem np_Contest_init : ev_np m_Contest_init 0 := ev_np_of (by decide +kernel)
theorem np_RowList_init : ev_np m_RowList_init 0 := ev_np_of (by decide +kernel)
theorem np_Question_init : ev_np m_Question_init 0 := ev_np_of (by decide +kernel)
theorem np_PT_change : ev_np m_PT_change 3 := ev_np_of (by decide +kernel)
theorem np_Rows_placeOf : ev_np m_Rows_placeOf 1 := ev_np_of (by decide +kernel)
theorem np_PT_isColumn : ev_np m_PT_isColumn 1 := ev_np_of (by decide +kernel)
theorem np_PT_remove : ev_np m_PT_remove 1 := ev_np_of (by decide +kernel)
theorem np_Rows_drop : ev_np m_Rows_drop 1 := ev_np_of (by decide +kernel)
theorem np_PT_layer : ev_np m_PT_layer 3 := ev_np_of (by decide +kernel)
theorem np_PT_isNode : ev_np m_PT_isNode 1 := ev_np_of (by decide +kernel)
theorem np_PT_isGraded : ev_np m_PT_isGraded 1 := ev_np_of (by decide +kernel)
theorem np_PT_free : ev_np m_PT_free 0 := ev_np_of (by decide +kernel)
theorem np_Conditions_clear : ev_np m_Conditions_clear 0 := ev_np_of (by decide +kernel)
theorem np_PT_answer : ev_np m_PT_answer 1 := ev_np_of (by decide +kernel)
theorem np_RowList_pick : ev_np m_RowList_pick 2 := ev_np_of (by decide +kernel)
theorem np_RowList_has : ev_np m_RowList_has 1 := ev_np_of (by decide +kernel)
theorem np_PT_saved : ev_np m_PT_saved 3 := ev_np_of (by decide +kernel)
theorem np_PT_isSaved : ev_np m_PT_isSaved 1 := ev_np_of (by decide +kernel)
theorem np_PT_isQuestion : ev_np m_PT_isQuestion 1 := ev_np_of (by decide +kernel)
theorem np_PT_keepUp : ev_np m_PT_keepUp 1 := ev_np_of (by decide +kernel)
theorem np_Contest_hold : ev_np m_Contest_hold 3 := ev_np_of (by decide +kernel)
theorem np_Contest_letIn : ev_np m_Contest_letIn 2 := ev_np_of (by decide +kernel)
theorem np_Conditions_pass : ev_np m_Conditions_pass 1 := ev_np_of (by decide +kernel)
theorem np_Conditions_holds : ev_np m_Conditions_holds 3 := ev_np_of (by decide +kernel)
theorem np_Contest_isIn : ev_np m_Contest_isIn 2 := ev_np_of (by decide +kernel)
theorem np_Order_says : ev_np m_Order_says 2 := ev_np_of (by decide +kernel)
theorem np_Graph_prefers : ev_np m_Graph_prefers 2 := ev_np_of (by decide +kernel)
theorem np_Graph_leads : ev_np m_Graph_leads 2 := ev_np_of (by decide +kernel)
theorem np_Layers_prefers : ev_np m_Layers_prefers 2 := ev_np_of (by decide +kernel)
theorem np_Layers_find : ev_np m_Layers_find 1 := ev_np_of (by decide +kernel)
theorem np_ValueOrder_prefers : ev_np m_ValueOrder_prefers 2 := ev_np_of (by decide +kernel)
theorem np_ValueOrder_distance : ev_np m_ValueOrder_distance 1 := ev_np_of (by decide +kernel)
theorem np_Term_says : ev_np m_Term_says 2 := ev_np_of (by decide +kernel)
theorem np_Term_changedOver : ev_np m_Term_changedOver 1 := ev_np_of (by decide +kernel)
theorem np_Term_paretoOf : ev_np m_Term_paretoOf 2 := ev_np_of (by decide +kernel)
theorem np_Contest_note : ev_np m_Contest_note 3 := ev_np_of (by decide +kernel)
theorem np_Contest_listUnbeaten : ev_np m_Contest_listUnbeaten 2 := ev_np_of (by decide +kernel)
theorem np_RowList_clear : ev_np m_RowList_clear 0 := ev_np_of (by decide +kernel)
theorem np_RowList_add : ev_np m_RowList_add 1 := ev_np_of (by decide +kernel)
theorem np_PT_read : ev_np m_PT_read 1 := ev_np_of (by decide +kernel)
theorem np_PT_markRead : ev_np m_PT_markRead 1 := ev_np_of (by decide +kernel)
theorem np_RowList_copyFrom : ev_np m_RowList_copyFrom 1 := ev_np_of (by decide +kernel)
theorem np_Lw_row : ev_np m_Lw_row 6 := ev_np_of (by decide +kernel)
theorem np_PT_row : ev_np m_PT_row 4 := ev_np_of (by decide +kernel)
theorem np_Rows_isFull : ev_np m_Rows_isFull 0 := ev_np_of (by decide +kernel)
theorem np_Rows_add : ev_np m_Rows_add 4 := ev_np_of (by decide +kernel)
theorem np_Lw_value : ev_np m_Lw_value 4 := ev_np_of (by decide +kernel)
theorem np_PT_value : ev_np m_PT_value 2 := ev_np_of (by decide +kernel)
theorem np_Lw_order : ev_np m_Lw_order 6 := ev_np_of (by decide +kernel)
theorem np_PT_order : ev_np m_PT_order 4 := ev_np_of (by decide +kernel)
theorem np_PT_newOrder : ev_np m_PT_newOrder 4 := ev_np_of (by decide +kernel)
theorem np_Layers_init : ev_np m_Layers_init 2 := ev_np_of (by decide +kernel)
theorem np_Order_init : ev_np m_Order_init 3 := ev_np_of (by decide +kernel)
theorem np_Node_init : ev_np m_Node_init 4 := ev_np_of (by decide +kernel)
theorem np_Graph_init : ev_np m_Graph_init 2 := ev_np_of (by decide +kernel)
theorem np_ValueOrder_init : ev_np m_ValueOrder_init 5 := ev_np_of (by decide +kernel)
theorem np_PT_addNode : ev_np m_PT_addNode 1 := ev_np_of (by decide +kernel)
theorem np_Lw_edge : ev_np m_Lw_edge 5 := ev_np_of (by decide +kernel)
theorem np_PT_edge : ev_np m_PT_edge 3 := ev_np_of (by decide +kernel)
theorem np_PT_addEdge : ev_np m_PT_addEdge 3 := ev_np_of (by decide +kernel)
theorem np_Graph_hasEdge : ev_np m_Graph_hasEdge 2 := ev_np_of (by decide +kernel)
theorem np_Graph_join : ev_np m_Graph_join 2 := ev_np_of (by decide +kernel)
theorem np_Lw_term : ev_np m_Lw_term 5 := ev_np_of (by decide +kernel)
theorem np_PT_term : ev_np m_PT_term 3 := ev_np_of (by decide +kernel)
theorem np_Term_sizeOf : ev_np m_Term_sizeOf 3 := ev_np_of (by decide +kernel)
theorem np_Term_init : ev_np m_Term_init 4 := ev_np_of (by decide +kernel)
theorem np_Lw_condition : ev_np m_Lw_condition 5 := ev_np_of (by decide +kernel)
theorem np_PT_condition : ev_np m_PT_condition 3 := ev_np_of (by decide +kernel)
theorem np_Conditions_add : ev_np m_Conditions_add 3 := ev_np_of (by decide +kernel)
theorem np_Lw_compare : ev_np m_Lw_compare 5 := ev_np_of (by decide +kernel)
theorem np_PT_compare : ev_np m_PT_compare 3 := ev_np_of (by decide +kernel)
theorem np_Lw_best : ev_np m_Lw_best 3 := ev_np_of (by decide +kernel)
theorem np_PT_best : ev_np m_PT_best 1 := ev_np_of (by decide +kernel)
theorem np_Lw_grouped : ev_np m_Lw_grouped 4 := ev_np_of (by decide +kernel)
theorem np_PT_grouped : ev_np m_PT_grouped 2 := ev_np_of (by decide +kernel)
theorem np_Contest_forgetOtherGroups : ev_np m_Contest_forgetOtherGroups 2 := ev_np_of (by decide +kernel)
theorem np_Lw_top : ev_np m_Lw_top 4 := ev_np_of (by decide +kernel)
theorem np_PT_top : ev_np m_PT_top 2 := ev_np_of (by decide +kernel)
theorem np_Contest_rank : ev_np m_Contest_rank 0 := ev_np_of (by decide +kernel)
theorem np_Contest_setLevel : ev_np m_Contest_setLevel 2 := ev_np_of (by decide +kernel)
theorem np_Contest_unbeatenAmong : ev_np m_Contest_unbeatenAmong 1 := ev_np_of (by decide +kernel)
theorem np_Contest_listFirst : ev_np m_Contest_listFirst 3 := ev_np_of (by decide +kernel)
theorem np_Lw_level : ev_np m_Lw_level 4 := ev_np_of (by decide +kernel)
theorem np_PT_level : ev_np m_PT_level 2 := ev_np_of (by decide +kernel)
theorem np_Lw_reason : ev_np m_Lw_reason 6 := ev_np_of (by decide +kernel)
theorem np_PT_reason : ev_np m_PT_reason 4 := ev_np_of (by decide +kernel)
theorem np_PT_walkToDecider : ev_np m_PT_walkToDecider 4 := ev_np_of (by decide +kernel)
theorem np_Term_partThatDecides : ev_np m_Term_partThatDecides 2 := ev_np_of (by decide +kernel)
theorem np_Lw_save : ev_np m_Lw_save 4 := ev_np_of (by decide +kernel)
theorem np_PT_save : ev_np m_PT_save 2 := ev_np_of (by decide +kernel)
theorem np_Question_ask : ev_np m_Question_ask 2 := ev_np_of (by decide +kernel)
theorem np_Conditions_copyFrom : ev_np m_Conditions_copyFrom 1 := ev_np_of (by decide +kernel)
theorem np_Lw_reduce : ev_np m_Lw_reduce 3 := ev_np_of (by decide +kernel)
theorem np_PT_reduce : ev_np m_PT_reduce 1 := ev_np_of (by decide +kernel)
theorem np_Order_putReduced : ev_np m_Order_putReduced 2 := ev_np_of (by decide +kernel)
theorem np_ValueOrder_putOwn : ev_np m_ValueOrder_putOwn 2 := ev_np_of (by decide +kernel)
theorem np_Order_putOwn : ev_np m_Order_putOwn 2 := ev_np_of (by decide +kernel)
theorem np_Term_putReduced : ev_np m_Term_putReduced 2 := ev_np_of (by decide +kernel)
theorem np_Term_reduceDual : ev_np m_Term_reduceDual 3 := ev_np_of (by decide +kernel)
theorem np_Term_moveBack : ev_np m_Term_moveBack 4 := ev_np_of (by decide +kernel)
theorem np_Term_areAlike : ev_np m_Term_areAlike 4 := ev_np_of (by decide +kernel)
theorem np_Term_pDecidesAlone : ev_np m_Term_pDecidesAlone 0 := ev_np_of (by decide +kernel)
theorem np_Term_pullDualOut : ev_np m_Term_pullDualOut 4 := ev_np_of (by decide +kernel)
theorem np_Lw_form : ev_np m_Lw_form 3 := ev_np_of (by decide +kernel)
theorem np_PT_form : ev_np m_PT_form 1 := ev_np_of (by decide +kernel)
theorem np_Md_init : ev_np m_Md_init 0 := ev_np_of (by decide +kernel)
theorem np_Md_thrown : ev_np m_Md_thrown 0 := ev_np_of (by decide +kernel)
theorem np_Md_row : ev_np m_Md_row 4 := ev_np_of (by decide +kernel)
theorem np_Md_present : ev_np m_Md_present 0 := ev_np_of (by decide +kernel)
theorem np_Md_change : ev_np m_Md_change 3 := ev_np_of (by decide +kernel)
theorem np_Md_isRow : ev_np m_Md_isRow 1 := ev_np_of (by decide +kernel)
theorem np_Md_isColumn : ev_np m_Md_isColumn 1 := ev_np_of (by decide +kernel)
theorem np_Md_remove : ev_np m_Md_remove 1 := ev_np_of (by decide +kernel)
theorem np_Md_value : ev_np m_Md_value 2 := ev_np_of (by decide +kernel)
theorem np_Md_order : ev_np m_Md_order 4 := ev_np_of (by decide +kernel)
theorem np_Md_layer : ev_np m_Md_layer 3 := ev_np_of (by decide +kernel)
theorem np_Md_isNode : ev_np m_Md_isNode 1 := ev_np_of (by decide +kernel)
theorem np_Md_isPlain : ev_np m_Md_isPlain 1 := ev_np_of (by decide +kernel)
theorem np_Md_edge : ev_np m_Md_edge 3 := ev_np_of (by decide +kernel)
theorem np_Md_reached : ev_np m_Md_reached 2 := ev_np_of (by decide +kernel)
theorem np_Md_term : ev_np m_Md_term 3 := ev_np_of (by decide +kernel)
theorem np_Md_compare : ev_np m_Md_compare 3 := ev_np_of (by decide +kernel)
theorem np_Md_say : ev_np m_Md_say 3 := ev_np_of (by decide +kernel)
theorem np_Md_ordered : ev_np m_Md_ordered 3 := ev_np_of (by decide +kernel)
theorem np_Md_byLess : ev_np m_Md_byLess 2 := ev_np_of (by decide +kernel)
theorem np_Md_depth : ev_np m_Md_depth 2 := ev_np_of (by decide +kernel)
theorem np_Md_graph : ev_np m_Md_graph 3 := ev_np_of (by decide +kernel)
theorem np_Md_distance : ev_np m_Md_distance 2 := ev_np_of (by decide +kernel)
theorem np_Md_joined : ev_np m_Md_joined 3 := ev_np_of (by decide +kernel)
theorem np_Md_pareto : ev_np m_Md_pareto 2 := ev_np_of (by decide +kernel)
theorem np_Md_condition : ev_np m_Md_condition 3 := ev_np_of (by decide +kernel)
theorem np_Md_free : ev_np m_Md_free 0 := ev_np_of (by decide +kernel)
theorem np_Md_best : ev_np m_Md_best 1 := ev_np_of (by decide +kernel)
theorem np_Md_mark : ev_np m_Md_mark 3 := ev_np_of (by decide +kernel)
theorem np_Md_passes : ev_np m_Md_passes 2 := ev_np_of (by decide +kernel)
theorem np_Md_holds : ev_np m_Md_holds 3 := ev_np_of (by decide +kernel)
theorem np_Md_answerBest : ev_np m_Md_answerBest 0 := ev_np_of (by decide +kernel)
theorem np_Md_grouped : ev_np m_Md_grouped 2 := ev_np_of (by decide +kernel)
theorem np_Md_top : ev_np m_Md_top 2 := ev_np_of (by decide +kernel)
theorem np_Md_weigh : ev_np m_Md_weigh 1 := ev_np_of (by decide +kernel)
theorem np_Md_level : ev_np m_Md_level 2 := ev_np_of (by decide +kernel)
theorem np_Md_answer : ev_np m_Md_answer 1 := ev_np_of (by decide +kernel)
theorem np_Md_reason : ev_np m_Md_reason 4 := ev_np_of (by decide +kernel)
theorem np_Md_save : ev_np m_Md_save 2 := ev_np_of (by decide +kernel)
theorem np_Md_readNow : ev_np m_Md_readNow 1 := ev_np_of (by decide +kernel)
theorem np_Md_saved : ev_np m_Md_saved 3 := ev_np_of (by decide +kernel)
theorem np_Md_read : ev_np m_Md_read 1 := ev_np_of (by decide +kernel)
theorem np_Md_reduce : ev_np m_Md_reduce 1 := ev_np_of (by decide +kernel)
theorem np_Md_reducedOrder : ev_np m_Md_reducedOrder 1 := ev_np_of (by decide +kernel)
theorem np_Md_place : ev_np m_Md_place 4 := ev_np_of (by decide +kernel)
theorem np_Md_reducedTerm : ev_np m_Md_reducedTerm 3 := ev_np_of (by decide +kernel)
theorem np_Md_dual : ev_np m_Md_dual 1 := ev_np_of (by decide +kernel)
theorem np_Md_write : ev_np m_Md_write 1 := ev_np_of (by decide +kernel)
theorem np_Md_emit : ev_np m_Md_emit 1 := ev_np_of (by decide +kernel)
theorem np_Md_form : ev_np m_Md_form 1 := ev_np_of (by decide +kernel)
theorem np_Lw_law : ev_np m_Lw_law 1 := ev_np_of (by decide +kernel)
theorem a_RowList_19 : ev_wA "PreferTable$RowList" 19 := ⟨wd_336, wd_196, wd_195, wd_12⟩
theorem a_Rows_27 : ev_wA "PreferTable$Rows" 27 := ⟨wd_194, wd_196, wd_195, wd_12⟩
theorem a_Term_67 : ev_wA "PreferTable$Term" 67 := ⟨wd_746, wd_196, wd_195, wd_12⟩
theorem g_Conditions_15_3 : ev_gs "PreferTable$Conditions" 15 3 1 := ⟨"PreferTable$Conditions", "PreferTable$Conditions", T_Conditions, 4, gd_Conditions, wd_64, Or.inl rfl, rfl, by decide⟩
theorem g_Conditions_18_3 : ev_gs "PreferTable$Conditions" 18 3 2 := ⟨"PreferTable$Conditions", "PreferTable$Conditions", T_Conditions, 4, gd_Conditions, wd_65, Or.inl rfl, rfl, by decide⟩
theorem g_Conditions_21_3 : ev_gs "PreferTable$Conditions" 21 3 3 := ⟨"PreferTable$Conditions", "PreferTable$Conditions", T_Conditions, 4, gd_Conditions, wd_66, Or.inl rfl, rfl, by decide⟩
theorem g_Conditions_9_3 : ev_gs "PreferTable$Conditions" 9 3 0 := ⟨"PreferTable$Conditions", "PreferTable$Conditions", T_Conditions, 4, gd_Conditions, wd_63, Or.inl rfl, rfl, by decide⟩
theorem g_Contest_15_5 : ev_gs "PreferTable$Contest" 15 5 1 := ⟨"PreferTable$Contest", "PreferTable$Contest", T_Contest, 3, gd_Contest, wd_84, Or.inl rfl, rfl, by decide⟩
theorem g_Contest_18_5 : ev_gs "PreferTable$Contest" 18 5 2 := ⟨"PreferTable$Contest", "PreferTable$Contest", T_Contest, 3, gd_Contest, wd_86, Or.inl rfl, rfl, by decide⟩
theorem g_Contest_26_1 : ev_gs "PreferTable$Contest" 26 1 2 := ⟨"PreferTable$Rows", "PreferTable$Rows", T_Rows, 4, gd_Rows, wd_43, Or.inl rfl, rfl, by decide⟩
theorem g_Contest_35_1 : ev_gs "PreferTable$Contest" 35 1 1 := ⟨"PreferTable$Rows", "PreferTable$Rows", T_Rows, 4, gd_Rows, wd_40, Or.inl rfl, rfl, by decide⟩
theorem g_Contest_60_1 : ev_gs "PreferTable$Contest" 60 1 0 := ⟨"PreferTable$Rows", "PreferTable$Rows", T_Rows, 4, gd_Rows, wd_38, Or.inl rfl, rfl, by decide⟩
theorem g_Contest_75_2 : ev_gs "PreferTable$Contest" 75 2 1 := ⟨"PreferTable$RowList", "PreferTable$RowList", T_RowList, 2, gd_RowList, wd_102, Or.inl rfl, rfl, by decide⟩
theorem g_Contest_9_5 : ev_gs "PreferTable$Contest" 9 5 0 := ⟨"PreferTable$Contest", "PreferTable$Contest", T_Contest, 3, gd_Contest, wd_83, Or.inl rfl, rfl, by decide⟩
theorem g_Graph_15_8 : ev_gs "PreferTable$Graph" 15 8 1 := ⟨"PreferTable$Graph", "PreferTable$Graph", T_Graph, 7, gd_Graph, wd_523, Or.inl rfl, rfl, by decide⟩
theorem g_Graph_9_8 : ev_gs "PreferTable$Graph" 9 8 0 := ⟨"PreferTable$Graph", "PreferTable$Graph", T_Graph, 7, gd_Graph, wd_522, Or.inl rfl, rfl, by decide⟩
theorem g_Layers_9_7 : ev_gs "PreferTable$Layers" 9 7 0 := ⟨"PreferTable$Layers", "PreferTable$Layers", T_Layers, 6, gd_Layers, wd_484, Or.inl rfl, rfl, by decide⟩
theorem g_Md_102_10 : ev_gs "PreferTableModel" 102 10 4 := ⟨"PreferTableModel", "PreferTableModel", T_Md, 34, gd_Md, wd_776, Or.inl rfl, rfl, by decide⟩
theorem g_Md_13_10 : ev_gs "PreferTableModel" 13 10 3 := ⟨"PreferTableModel", "PreferTableModel", T_Md, 34, gd_Md, wd_775, Or.inl rfl, rfl, by decide⟩
theorem g_Md_163_10 : ev_gs "PreferTableModel" 163 10 22 := ⟨"PreferTableModel", "PreferTableModel", T_Md, 34, gd_Md, wd_794, Or.inl rfl, rfl, by decide⟩
theorem g_Md_17_10 : ev_gs "PreferTableModel" 17 10 5 := ⟨"PreferTableModel", "PreferTableModel", T_Md, 34, gd_Md, wd_777, Or.inl rfl, rfl, by decide⟩
theorem g_Md_180_10 : ev_gs "PreferTableModel" 180 10 24 := ⟨"PreferTableModel", "PreferTableModel", T_Md, 34, gd_Md, wd_796, Or.inl rfl, rfl, by decide⟩
theorem g_Md_190_10 : ev_gs "PreferTableModel" 190 10 31 := ⟨"PreferTableModel", "PreferTableModel", T_Md, 34, gd_Md, wd_803, Or.inl rfl, rfl, by decide⟩
theorem g_Md_20_10 : ev_gs "PreferTableModel" 20 10 6 := ⟨"PreferTableModel", "PreferTableModel", T_Md, 34, gd_Md, wd_778, Or.inl rfl, rfl, by decide⟩
theorem g_Md_23_10 : ev_gs "PreferTableModel" 23 10 7 := ⟨"PreferTableModel", "PreferTableModel", T_Md, 34, gd_Md, wd_779, Or.inl rfl, rfl, by decide⟩
theorem g_Md_26_10 : ev_gs "PreferTableModel" 26 10 8 := ⟨"PreferTableModel", "PreferTableModel", T_Md, 34, gd_Md, wd_780, Or.inl rfl, rfl, by decide⟩
theorem g_Md_29_10 : ev_gs "PreferTableModel" 29 10 9 := ⟨"PreferTableModel", "PreferTableModel", T_Md, 34, gd_Md, wd_781, Or.inl rfl, rfl, by decide⟩
theorem g_Md_32_10 : ev_gs "PreferTableModel" 32 10 10 := ⟨"PreferTableModel", "PreferTableModel", T_Md, 34, gd_Md, wd_782, Or.inl rfl, rfl, by decide⟩
theorem g_Md_35_10 : ev_gs "PreferTableModel" 35 10 11 := ⟨"PreferTableModel", "PreferTableModel", T_Md, 34, gd_Md, wd_783, Or.inl rfl, rfl, by decide⟩
theorem g_Md_38_10 : ev_gs "PreferTableModel" 38 10 12 := ⟨"PreferTableModel", "PreferTableModel", T_Md, 34, gd_Md, wd_784, Or.inl rfl, rfl, by decide⟩
theorem g_Md_41_10 : ev_gs "PreferTableModel" 41 10 13 := ⟨"PreferTableModel", "PreferTableModel", T_Md, 34, gd_Md, wd_785, Or.inl rfl, rfl, by decide⟩
theorem g_Md_44_10 : ev_gs "PreferTableModel" 44 10 14 := ⟨"PreferTableModel", "PreferTableModel", T_Md, 34, gd_Md, wd_786, Or.inl rfl, rfl, by decide⟩
theorem g_Md_47_10 : ev_gs "PreferTableModel" 47 10 15 := ⟨"PreferTableModel", "PreferTableModel", T_Md, 34, gd_Md, wd_787, Or.inl rfl, rfl, by decide⟩
theorem g_Md_50_10 : ev_gs "PreferTableModel" 50 10 16 := ⟨"PreferTableModel", "PreferTableModel", T_Md, 34, gd_Md, wd_788, Or.inl rfl, rfl, by decide⟩
theorem g_Md_53_10 : ev_gs "PreferTableModel" 53 10 17 := ⟨"PreferTableModel", "PreferTableModel", T_Md, 34, gd_Md, wd_789, Or.inl rfl, rfl, by decide⟩
theorem g_Md_56_10 : ev_gs "PreferTableModel" 56 10 18 := ⟨"PreferTableModel", "PreferTableModel", T_Md, 34, gd_Md, wd_790, Or.inl rfl, rfl, by decide⟩
theorem g_Md_59_10 : ev_gs "PreferTableModel" 59 10 19 := ⟨"PreferTableModel", "PreferTableModel", T_Md, 34, gd_Md, wd_791, Or.inl rfl, rfl, by decide⟩
theorem g_Md_62_10 : ev_gs "PreferTableModel" 62 10 20 := ⟨"PreferTableModel", "PreferTableModel", T_Md, 34, gd_Md, wd_792, Or.inl rfl, rfl, by decide⟩
theorem g_Md_65_10 : ev_gs "PreferTableModel" 65 10 21 := ⟨"PreferTableModel", "PreferTableModel", T_Md, 34, gd_Md, wd_793, Or.inl rfl, rfl, by decide⟩
theorem g_Md_68_10 : ev_gs "PreferTableModel" 68 10 23 := ⟨"PreferTableModel", "PreferTableModel", T_Md, 34, gd_Md, wd_795, Or.inl rfl, rfl, by decide⟩
theorem g_Md_71_10 : ev_gs "PreferTableModel" 71 10 25 := ⟨"PreferTableModel", "PreferTableModel", T_Md, 34, gd_Md, wd_797, Or.inl rfl, rfl, by decide⟩
theorem g_Md_74_10 : ev_gs "PreferTableModel" 74 10 26 := ⟨"PreferTableModel", "PreferTableModel", T_Md, 34, gd_Md, wd_798, Or.inl rfl, rfl, by decide⟩
theorem g_Md_77_10 : ev_gs "PreferTableModel" 77 10 27 := ⟨"PreferTableModel", "PreferTableModel", T_Md, 34, gd_Md, wd_799, Or.inl rfl, rfl, by decide⟩
theorem g_Md_7_10 : ev_gs "PreferTableModel" 7 10 2 := ⟨"PreferTableModel", "PreferTableModel", T_Md, 34, gd_Md, wd_774, Or.inl rfl, rfl, by decide⟩
theorem g_Md_80_10 : ev_gs "PreferTableModel" 80 10 28 := ⟨"PreferTableModel", "PreferTableModel", T_Md, 34, gd_Md, wd_800, Or.inl rfl, rfl, by decide⟩
theorem g_Md_83_10 : ev_gs "PreferTableModel" 83 10 29 := ⟨"PreferTableModel", "PreferTableModel", T_Md, 34, gd_Md, wd_801, Or.inl rfl, rfl, by decide⟩
theorem g_Md_86_10 : ev_gs "PreferTableModel" 86 10 30 := ⟨"PreferTableModel", "PreferTableModel", T_Md, 34, gd_Md, wd_802, Or.inl rfl, rfl, by decide⟩
theorem g_Md_89_10 : ev_gs "PreferTableModel" 89 10 32 := ⟨"PreferTableModel", "PreferTableModel", T_Md, 34, gd_Md, wd_804, Or.inl rfl, rfl, by decide⟩
theorem g_Md_92_10 : ev_gs "PreferTableModel" 92 10 33 := ⟨"PreferTableModel", "PreferTableModel", T_Md, 34, gd_Md, wd_805, Or.inl rfl, rfl, by decide⟩
theorem g_Md_95_10 : ev_gs "PreferTableModel" 95 10 0 := ⟨"PreferTableModel", "PreferTableModel", T_Md, 34, gd_Md, wd_772, Or.inl rfl, rfl, by decide⟩
theorem g_Md_99_10 : ev_gs "PreferTableModel" 99 10 1 := ⟨"PreferTableModel", "PreferTableModel", T_Md, 34, gd_Md, wd_773, Or.inl rfl, rfl, by decide⟩
theorem g_Order_19_6 : ev_gs "PreferTable$Order" 19 6 3 := ⟨"PreferTable$Order", "PreferTable$ValueOrder", T_ValueOrder, 7, gd_ValueOrder, wd_492, Or.inr wd_493, rfl, by decide⟩
theorem g_Order_19_7 : ev_gs "PreferTable$Order" 19 7 2 := ⟨"PreferTable$Order", "PreferTable$Layers", T_Layers, 6, gd_Layers, wd_492, Or.inr wd_493, rfl, by decide⟩
theorem g_Order_19_8 : ev_gs "PreferTable$Order" 19 8 3 := ⟨"PreferTable$Order", "PreferTable$Graph", T_Graph, 7, gd_Graph, wd_492, Or.inr wd_493, rfl, by decide⟩
theorem g_Order_19_9 : ev_gs "PreferTable$Order" 19 9 2 := ⟨"PreferTable$Order", "PreferTable$Term", T_Term, 6, gd_Term, wd_492, Or.inr wd_493, rfl, by decide⟩
theorem g_Order_26_6 : ev_gs "PreferTable$Order" 26 6 4 := ⟨"PreferTable$Order", "PreferTable$ValueOrder", T_ValueOrder, 7, gd_ValueOrder, wd_496, Or.inr wd_497, rfl, by decide⟩
theorem g_Order_26_7 : ev_gs "PreferTable$Order" 26 7 3 := ⟨"PreferTable$Order", "PreferTable$Layers", T_Layers, 6, gd_Layers, wd_496, Or.inr wd_497, rfl, by decide⟩
theorem g_Order_26_8 : ev_gs "PreferTable$Order" 26 8 4 := ⟨"PreferTable$Order", "PreferTable$Graph", T_Graph, 7, gd_Graph, wd_496, Or.inr wd_497, rfl, by decide⟩
theorem g_Order_26_9 : ev_gs "PreferTable$Order" 26 9 3 := ⟨"PreferTable$Order", "PreferTable$Term", T_Term, 6, gd_Term, wd_496, Or.inr wd_497, rfl, by decide⟩
theorem g_Order_9_6 : ev_gs "PreferTable$Order" 9 6 2 := ⟨"PreferTable$Order", "PreferTable$ValueOrder", T_ValueOrder, 7, gd_ValueOrder, wd_486, Or.inl rfl, rfl, by decide⟩
theorem g_Order_9_7 : ev_gs "PreferTable$Order" 9 7 1 := ⟨"PreferTable$Order", "PreferTable$Layers", T_Layers, 6, gd_Layers, wd_486, Or.inl rfl, rfl, by decide⟩
theorem g_Order_9_8 : ev_gs "PreferTable$Order" 9 8 2 := ⟨"PreferTable$Order", "PreferTable$Graph", T_Graph, 7, gd_Graph, wd_486, Or.inl rfl, rfl, by decide⟩
theorem g_PT_126_7 : ev_gs "PreferTable" 126 7 0 := ⟨"PreferTable$Layers", "PreferTable$Layers", T_Layers, 6, gd_Layers, wd_485, Or.inl rfl, rfl, by decide⟩
theorem g_PT_12_0 : ev_gs "PreferTable" 12 0 0 := ⟨"PreferTable", "PreferTable", T_PT, 11, gd_PT, wd_141, Or.inl rfl, rfl, by decide⟩
theorem g_PT_154_3 : ev_gs "PreferTable" 154 3 3 := ⟨"PreferTable$Conditions", "PreferTable$Conditions", T_Conditions, 4, gd_Conditions, wd_67, Or.inl rfl, rfl, by decide⟩
theorem g_PT_181_2 : ev_gs "PreferTable" 181 2 1 := ⟨"PreferTable$RowList", "PreferTable$RowList", T_RowList, 2, gd_RowList, wd_103, Or.inl rfl, rfl, by decide⟩
theorem g_PT_18_0 : ev_gs "PreferTable" 18 0 1 := ⟨"PreferTable", "PreferTable", T_PT, 11, gd_PT, wd_142, Or.inl rfl, rfl, by decide⟩
theorem g_PT_197_5 : ev_gs "PreferTable" 197 5 1 := ⟨"PreferTable$Contest", "PreferTable$Contest", T_Contest, 3, gd_Contest, wd_85, Or.inl rfl, rfl, by decide⟩
theorem g_PT_221_4 : ev_gs "PreferTable" 221 4 2 := ⟨"PreferTable$Question", "PreferTable$Question", T_Question, 5, gd_Question, wd_125, Or.inl rfl, rfl, by decide⟩
theorem g_PT_22_0 : ev_gs "PreferTable" 22 0 2 := ⟨"PreferTable", "PreferTable", T_PT, 11, gd_PT, wd_143, Or.inl rfl, rfl, by decide⟩
theorem g_PT_230_4 : ev_gs "PreferTable" 230 4 3 := ⟨"PreferTable$Question", "PreferTable$Question", T_Question, 5, gd_Question, wd_127, Or.inl rfl, rfl, by decide⟩
theorem g_PT_239_4 : ev_gs "PreferTable" 239 4 0 := ⟨"PreferTable$Question", "PreferTable$Question", T_Question, 5, gd_Question, wd_121, Or.inl rfl, rfl, by decide⟩
theorem g_PT_252_6 : ev_gs "PreferTable" 252 6 4 := ⟨"PreferTable$Node", "PreferTable$ValueOrder", T_ValueOrder, 7, gd_ValueOrder, wd_498, Or.inl rfl, rfl, by decide⟩
theorem g_PT_252_7 : ev_gs "PreferTable" 252 7 3 := ⟨"PreferTable$Node", "PreferTable$Layers", T_Layers, 6, gd_Layers, wd_498, Or.inl rfl, rfl, by decide⟩
theorem g_PT_252_8 : ev_gs "PreferTable" 252 8 4 := ⟨"PreferTable$Node", "PreferTable$Graph", T_Graph, 7, gd_Graph, wd_498, Or.inl rfl, rfl, by decide⟩
theorem g_PT_252_9 : ev_gs "PreferTable" 252 9 3 := ⟨"PreferTable$Node", "PreferTable$Term", T_Term, 6, gd_Term, wd_498, Or.inl rfl, rfl, by decide⟩
theorem g_PT_271_6 : ev_gs "PreferTable" 271 6 3 := ⟨"PreferTable$Term", "PreferTable$ValueOrder", T_ValueOrder, 7, gd_ValueOrder, wd_494, Or.inr wd_491, rfl, by decide⟩
theorem g_PT_271_7 : ev_gs "PreferTable" 271 7 2 := ⟨"PreferTable$Term", "PreferTable$Layers", T_Layers, 6, gd_Layers, wd_494, Or.inr wd_491, rfl, by decide⟩
theorem g_PT_271_8 : ev_gs "PreferTable" 271 8 3 := ⟨"PreferTable$Term", "PreferTable$Graph", T_Graph, 7, gd_Graph, wd_494, Or.inr wd_491, rfl, by decide⟩
theorem g_PT_271_9 : ev_gs "PreferTable" 271 9 2 := ⟨"PreferTable$Term", "PreferTable$Term", T_Term, 6, gd_Term, wd_494, Or.inr wd_491, rfl, by decide⟩
theorem g_PT_274_4 : ev_gs "PreferTable" 274 4 4 := ⟨"PreferTable$Question", "PreferTable$Question", T_Question, 5, gd_Question, wd_129, Or.inl rfl, rfl, by decide⟩
theorem g_PT_277_4 : ev_gs "PreferTable" 277 4 1 := ⟨"PreferTable$Question", "PreferTable$Question", T_Question, 5, gd_Question, wd_123, Or.inl rfl, rfl, by decide⟩
theorem g_PT_29_0 : ev_gs "PreferTable" 29 0 3 := ⟨"PreferTable", "PreferTable", T_PT, 11, gd_PT, wd_144, Or.inl rfl, rfl, by decide⟩
theorem g_PT_36_0 : ev_gs "PreferTable" 36 0 4 := ⟨"PreferTable", "PreferTable", T_PT, 11, gd_PT, wd_145, Or.inl rfl, rfl, by decide⟩
theorem g_PT_43_0 : ev_gs "PreferTable" 43 0 5 := ⟨"PreferTable", "PreferTable", T_PT, 11, gd_PT, wd_146, Or.inl rfl, rfl, by decide⟩
theorem g_PT_47_0 : ev_gs "PreferTable" 47 0 6 := ⟨"PreferTable", "PreferTable", T_PT, 11, gd_PT, wd_147, Or.inl rfl, rfl, by decide⟩
theorem g_PT_52_0 : ev_gs "PreferTable" 52 0 7 := ⟨"PreferTable", "PreferTable", T_PT, 11, gd_PT, wd_148, Or.inl rfl, rfl, by decide⟩
theorem g_PT_56_0 : ev_gs "PreferTable" 56 0 8 := ⟨"PreferTable", "PreferTable", T_PT, 11, gd_PT, wd_149, Or.inl rfl, rfl, by decide⟩
theorem g_PT_59_0 : ev_gs "PreferTable" 59 0 9 := ⟨"PreferTable", "PreferTable", T_PT, 11, gd_PT, wd_150, Or.inl rfl, rfl, by decide⟩
theorem g_PT_63_0 : ev_gs "PreferTable" 63 0 10 := ⟨"PreferTable", "PreferTable", T_PT, 11, gd_PT, wd_151, Or.inl rfl, rfl, by decide⟩
theorem g_PT_90_1 : ev_gs "PreferTable" 90 1 1 := ⟨"PreferTable$Rows", "PreferTable$Rows", T_Rows, 4, gd_Rows, wd_41, Or.inl rfl, rfl, by decide⟩
theorem g_Question_18_4 : ev_gs "PreferTable$Question" 18 4 1 := ⟨"PreferTable$Question", "PreferTable$Question", T_Question, 5, gd_Question, wd_122, Or.inl rfl, rfl, by decide⟩
theorem g_RowList_15_2 : ev_gs "PreferTable$RowList" 15 2 1 := ⟨"PreferTable$RowList", "PreferTable$RowList", T_RowList, 2, gd_RowList, wd_101, Or.inl rfl, rfl, by decide⟩
theorem g_RowList_9_2 : ev_gs "PreferTable$RowList" 9 2 0 := ⟨"PreferTable$RowList", "PreferTable$RowList", T_RowList, 2, gd_RowList, wd_100, Or.inl rfl, rfl, by decide⟩
theorem g_Rows_17_1 : ev_gs "PreferTable$Rows" 17 1 1 := ⟨"PreferTable$Rows", "PreferTable$Rows", T_Rows, 4, gd_Rows, wd_39, Or.inl rfl, rfl, by decide⟩
theorem g_Rows_20_1 : ev_gs "PreferTable$Rows" 20 1 2 := ⟨"PreferTable$Rows", "PreferTable$Rows", T_Rows, 4, gd_Rows, wd_42, Or.inl rfl, rfl, by decide⟩
theorem g_Rows_24_1 : ev_gs "PreferTable$Rows" 24 1 3 := ⟨"PreferTable$Rows", "PreferTable$Rows", T_Rows, 4, gd_Rows, wd_44, Or.inl rfl, rfl, by decide⟩
theorem g_Rows_9_1 : ev_gs "PreferTable$Rows" 9 1 0 := ⟨"PreferTable$Rows", "PreferTable$Rows", T_Rows, 4, gd_Rows, wd_37, Or.inl rfl, rfl, by decide⟩
theorem g_Term_19_9 : ev_gs "PreferTable$Term" 19 9 0 := ⟨"PreferTable$Term", "PreferTable$Term", T_Term, 6, gd_Term, wd_597, Or.inl rfl, rfl, by decide⟩
theorem g_Term_23_9 : ev_gs "PreferTable$Term" 23 9 1 := ⟨"PreferTable$Term", "PreferTable$Term", T_Term, 6, gd_Term, wd_598, Or.inl rfl, rfl, by decide⟩
theorem g_Term_26_6 : ev_gs "PreferTable$Term" 26 6 5 := ⟨"PreferTable$Node", "PreferTable$ValueOrder", T_ValueOrder, 7, gd_ValueOrder, wd_500, Or.inl rfl, rfl, by decide⟩
theorem g_Term_26_7 : ev_gs "PreferTable$Term" 26 7 4 := ⟨"PreferTable$Node", "PreferTable$Layers", T_Layers, 6, gd_Layers, wd_500, Or.inl rfl, rfl, by decide⟩
theorem g_Term_26_8 : ev_gs "PreferTable$Term" 26 8 5 := ⟨"PreferTable$Node", "PreferTable$Graph", T_Graph, 7, gd_Graph, wd_500, Or.inl rfl, rfl, by decide⟩
theorem g_Term_26_9 : ev_gs "PreferTable$Term" 26 9 4 := ⟨"PreferTable$Node", "PreferTable$Term", T_Term, 6, gd_Term, wd_500, Or.inl rfl, rfl, by decide⟩
theorem g_Term_33_6 : ev_gs "PreferTable$Term" 33 6 3 := ⟨"PreferTable$Term", "PreferTable$ValueOrder", T_ValueOrder, 7, gd_ValueOrder, wd_490, Or.inr wd_491, rfl, by decide⟩
theorem g_Term_33_7 : ev_gs "PreferTable$Term" 33 7 2 := ⟨"PreferTable$Term", "PreferTable$Layers", T_Layers, 6, gd_Layers, wd_490, Or.inr wd_491, rfl, by decide⟩
theorem g_Term_33_8 : ev_gs "PreferTable$Term" 33 8 3 := ⟨"PreferTable$Term", "PreferTable$Graph", T_Graph, 7, gd_Graph, wd_490, Or.inr wd_491, rfl, by decide⟩
theorem g_Term_33_9 : ev_gs "PreferTable$Term" 33 9 2 := ⟨"PreferTable$Term", "PreferTable$Term", T_Term, 6, gd_Term, wd_490, Or.inr wd_491, rfl, by decide⟩
theorem g_Term_9_6 : ev_gs "PreferTable$Term" 9 6 6 := ⟨"PreferTable$Node", "PreferTable$ValueOrder", T_ValueOrder, 7, gd_ValueOrder, wd_501, Or.inl rfl, rfl, by decide⟩
theorem g_Term_9_7 : ev_gs "PreferTable$Term" 9 7 5 := ⟨"PreferTable$Node", "PreferTable$Layers", T_Layers, 6, gd_Layers, wd_501, Or.inl rfl, rfl, by decide⟩
theorem g_Term_9_8 : ev_gs "PreferTable$Term" 9 8 6 := ⟨"PreferTable$Node", "PreferTable$Graph", T_Graph, 7, gd_Graph, wd_501, Or.inl rfl, rfl, by decide⟩
theorem g_Term_9_9 : ev_gs "PreferTable$Term" 9 9 5 := ⟨"PreferTable$Node", "PreferTable$Term", T_Term, 6, gd_Term, wd_501, Or.inl rfl, rfl, by decide⟩
theorem g_ValueOrder_15_6 : ev_gs "PreferTable$ValueOrder" 15 6 1 := ⟨"PreferTable$ValueOrder", "PreferTable$ValueOrder", T_ValueOrder, 7, gd_ValueOrder, wd_540, Or.inl rfl, rfl, by decide⟩
theorem g_ValueOrder_18_6 : ev_gs "PreferTable$ValueOrder" 18 6 3 := ⟨"PreferTable$ValueOrder", "PreferTable$ValueOrder", T_ValueOrder, 7, gd_ValueOrder, wd_488, Or.inr wd_489, rfl, by decide⟩
theorem g_ValueOrder_18_7 : ev_gs "PreferTable$ValueOrder" 18 7 2 := ⟨"PreferTable$ValueOrder", "PreferTable$Layers", T_Layers, 6, gd_Layers, wd_488, Or.inr wd_489, rfl, by decide⟩
theorem g_ValueOrder_18_8 : ev_gs "PreferTable$ValueOrder" 18 8 3 := ⟨"PreferTable$ValueOrder", "PreferTable$Graph", T_Graph, 7, gd_Graph, wd_488, Or.inr wd_489, rfl, by decide⟩
theorem g_ValueOrder_18_9 : ev_gs "PreferTable$ValueOrder" 18 9 2 := ⟨"PreferTable$ValueOrder", "PreferTable$Term", T_Term, 6, gd_Term, wd_488, Or.inr wd_489, rfl, by decide⟩
theorem g_ValueOrder_9_6 : ev_gs "PreferTable$ValueOrder" 9 6 0 := ⟨"PreferTable$ValueOrder", "PreferTable$ValueOrder", T_ValueOrder, 7, gd_ValueOrder, wd_539, Or.inl rfl, rfl, by decide⟩
theorem i_Graph_3 : ev_wI "PreferTable$Graph" 3 m_Order_init := ⟨cd_Order_init, rfl, rfl, wd_478, wc_Order_init, Or.inl wd_521⟩
theorem i_Layers_3 : ev_wI "PreferTable$Layers" 3 m_Order_init := ⟨cd_Order_init, rfl, rfl, wd_478, wc_Order_init, Or.inl wd_477⟩
theorem i_Lw_65 : ev_wI "PreferTableLaw" 65 m_PT_init := ⟨cd_PT_init, rfl, rfl, wd_24, wc_PT_init, Or.inl wd_23⟩
theorem i_Lw_68 : ev_wI "PreferTableLaw" 68 m_Md_init := ⟨cd_Md_init, rfl, rfl, wd_769, wc_Md_init, Or.inl wd_768⟩
theorem i_Order_3 : ev_wI "PreferTable$Order" 3 m_Node_init := ⟨cd_Node_init, rfl, rfl, wd_481, wc_Node_init, Or.inl wd_480⟩
theorem i_PT_11 : ev_wI "PreferTable" 11 m_Rows_init := ⟨cd_Rows_init, rfl, rfl, wd_32, wc_Rows_init, Or.inr ⟨_, wd_31⟩⟩
theorem i_PT_149 : ev_wI "PreferTable" 149 m_Term_init := ⟨cd_Term_init, rfl, rfl, wd_593, wc_Term_init, Or.inl wd_592⟩
theorem i_PT_243 : ev_wI "PreferTable" 243 m_Layers_init := ⟨cd_Layers_init, rfl, rfl, wd_475, wc_Layers_init, Or.inl wd_474⟩
theorem i_PT_246 : ev_wI "PreferTable" 246 m_Graph_init := ⟨cd_Graph_init, rfl, rfl, wd_519, wc_Graph_init, Or.inl wd_518⟩
theorem i_PT_249 : ev_wI "PreferTable" 249 m_ValueOrder_init := ⟨cd_ValueOrder_init, rfl, rfl, wd_536, wc_ValueOrder_init, Or.inl wd_535⟩
theorem i_PT_28 : ev_wI "PreferTable" 28 m_Conditions_init := ⟨cd_Conditions_init, rfl, rfl, wd_60, wc_Conditions_init, Or.inr ⟨_, wd_59⟩⟩
theorem i_PT_35 : ev_wI "PreferTable" 35 m_Contest_init := ⟨cd_Contest_init, rfl, rfl, wd_80, wc_Contest_init, Or.inr ⟨_, wd_79⟩⟩
theorem i_PT_42 : ev_wI "PreferTable" 42 m_RowList_init := ⟨cd_RowList_init, rfl, rfl, wd_97, wc_RowList_init, Or.inr ⟨_, wd_96⟩⟩
theorem i_PT_66 : ev_wI "PreferTable" 66 m_Question_init := ⟨cd_Question_init, rfl, rfl, wd_113, wc_Question_init, Or.inr ⟨_, wd_112⟩⟩
theorem i_Question_17 : ev_wI "PreferTable$Question" 17 m_Conditions_init := ⟨cd_Conditions_init, rfl, rfl, wd_60, wc_Conditions_init, Or.inr ⟨_, wd_117⟩⟩
theorem i_Question_24 : ev_wI "PreferTable$Question" 24 m_RowList_init := ⟨cd_RowList_init, rfl, rfl, wd_97, wc_RowList_init, Or.inr ⟨_, wd_119⟩⟩
theorem i_Term_15 : ev_wI "PreferTable$Term" 15 m_Node_init := ⟨cd_Node_init, rfl, rfl, wd_481, wc_Node_init, Or.inl wd_596⟩
theorem i_ValueOrder_3 : ev_wI "PreferTable$ValueOrder" 3 m_Order_init := ⟨cd_Order_init, rfl, rfl, wd_478, wc_Order_init, Or.inl wd_538⟩
theorem n_Lw_66 : ev_ns "PreferTableLaw" 66 10 34 [.int 0, .int 0, .null, .null, .int 0, .null, .null, .null, .null, .null, .null, .null, .null, .null, .null, .null, .null, .null, .null, .null, .null, .null, .int 0, .null, .int 0, .null, .null, .null, .null, .null, .null, .int 0, .null, .null] := ⟨"PreferTableModel", T_Md, ty_Md, gd_Md, wd_766, wd_767, wd_7, rfl, by decide +kernel, by decide +kernel⟩
theorem n_Lw_8 : ev_ns "PreferTableLaw" 8 0 11 [.null, .null, .int 0, .null, .null, .null, .null, .null, .int 0, .null, .int 0] := ⟨"PreferTable", T_PT, ty_PT, gd_PT, wd_21, wd_22, wd_1, rfl, by decide +kernel, by decide +kernel⟩
theorem n_PT_124 : ev_ns "PreferTable" 124 7 6 [.null, .int 0, .int 0, .int 0, .int 0, .int 0] := ⟨"PreferTable$Layers", T_Layers, ty_Layers, gd_Layers, wd_208, wd_285, wd_17, rfl, by decide +kernel, by decide +kernel⟩
theorem n_PT_131 : ev_ns "PreferTable" 131 8 7 [.null, .null, .int 0, .int 0, .int 0, .int 0, .int 0] := ⟨"PreferTable$Graph", T_Graph, ty_Graph, gd_Graph, wd_516, wd_517, wd_18, rfl, by decide +kernel, by decide +kernel⟩
theorem n_PT_142 : ev_ns "PreferTable" 142 9 6 [.null, .null, .int 0, .int 0, .int 0, .int 0] := ⟨"PreferTable$Term", T_Term, ty_Term, gd_Term, wd_590, wd_591, wd_20, rfl, by decide +kernel, by decide +kernel⟩
theorem n_PT_247 : ev_ns "PreferTable" 247 6 7 [.int 0, .int 0, .int 0, .int 0, .int 0, .int 0, .int 0] := ⟨"PreferTable$ValueOrder", T_ValueOrder, ty_ValueOrder, gd_ValueOrder, wd_534, wd_294, wd_19, rfl, by decide +kernel, by decide +kernel⟩
theorem n_PT_26 : ev_ns "PreferTable" 26 3 4 [.null, .null, .null, .int 0] := ⟨"PreferTable$Conditions", T_Conditions, ty_Conditions, gd_Conditions, wd_57, wd_58, wd_3, rfl, by decide +kernel, by decide +kernel⟩
theorem n_PT_33 : ev_ns "PreferTable" 33 5 3 [.null, .null, .int 0] := ⟨"PreferTable$Contest", T_Contest, ty_Contest, gd_Contest, wd_77, wd_78, wd_4, rfl, by decide +kernel, by decide +kernel⟩
theorem n_PT_40 : ev_ns "PreferTable" 40 2 2 [.null, .int 0] := ⟨"PreferTable$RowList", T_RowList, ty_RowList, gd_RowList, wd_94, wd_95, wd_5, rfl, by decide +kernel, by decide +kernel⟩
theorem n_PT_50 : ev_ns "PreferTable" 50 4 5 [.null, .null, .null, .null, .int 0] := ⟨"PreferTable$Question", T_Question, ty_Question, gd_Question, wd_109, wd_111, wd_6, rfl, by decide +kernel, by decide +kernel⟩
theorem n_PT_9 : ev_ns "PreferTable" 9 1 4 [.null, .null, .int 0, .int 0] := ⟨"PreferTable$Rows", T_Rows, ty_Rows, gd_Rows, wd_29, wd_30, wd_2, rfl, by decide +kernel, by decide +kernel⟩
theorem n_Question_15 : ev_ns "PreferTable$Question" 15 3 4 [.null, .null, .null, .int 0] := ⟨"PreferTable$Conditions", T_Conditions, ty_Conditions, gd_Conditions, wd_116, wd_58, wd_3, rfl, by decide +kernel, by decide +kernel⟩
theorem n_Question_22 : ev_ns "PreferTable$Question" 22 2 2 [.null, .int 0] := ⟨"PreferTable$RowList", T_RowList, ty_RowList, gd_RowList, wd_118, wd_95, wd_5, rfl, by decide +kernel, by decide +kernel⟩
theorem o_Conditions_3 : ev_wO "PreferTable$Conditions" 3 := ⟨wd_62, wd_27, wd_objcode⟩
theorem o_Contest_3 : ev_wO "PreferTable$Contest" 3 := ⟨wd_82, wd_27, wd_objcode⟩
theorem o_Md_1 : ev_wO "PreferTableModel" 1 := ⟨wd_771, wd_27, wd_objcode⟩
theorem o_Node_1 : ev_wO "PreferTable$Node" 1 := ⟨wd_483, wd_27, wd_objcode⟩
theorem o_PT_3 : ev_wO "PreferTable" 3 := ⟨wd_26, wd_27, wd_objcode⟩
theorem o_Question_3 : ev_wO "PreferTable$Question" 3 := ⟨wd_115, wd_27, wd_objcode⟩
theorem o_RowList_3 : ev_wO "PreferTable$RowList" 3 := ⟨wd_99, wd_27, wd_objcode⟩
theorem o_Rows_3 : ev_wO "PreferTable$Rows" 3 := ⟨wd_34, wd_27, wd_objcode⟩
theorem p_Conditions_15_3 : ev_ps "PreferTable$Conditions" "<init>" 15 3 1 (.array .int) := ⟨"PreferTable$Conditions", "PreferTable$Conditions", T_Conditions, 4, gd_Conditions, wd_64, Or.inl rfl, rfl, by decide, by decide +kernel, Or.inr ⟨rfl, rfl, rfl⟩⟩
theorem p_Conditions_18_3 : ev_ps "PreferTable$Conditions" "<init>" 18 3 2 (.array .int) := ⟨"PreferTable$Conditions", "PreferTable$Conditions", T_Conditions, 4, gd_Conditions, wd_65, Or.inl rfl, rfl, by decide, by decide +kernel, Or.inr ⟨rfl, rfl, rfl⟩⟩
theorem p_Conditions_21_3 {m : String} : ev_ps "PreferTable$Conditions" m 21 3 3 .int := ⟨"PreferTable$Conditions", "PreferTable$Conditions", T_Conditions, 4, gd_Conditions, wd_66, Or.inl rfl, rfl, by decide, by decide +kernel, Or.inl rfl⟩
theorem p_Conditions_9_3 : ev_ps "PreferTable$Conditions" "<init>" 9 3 0 (.array .int) := ⟨"PreferTable$Conditions", "PreferTable$Conditions", T_Conditions, 4, gd_Conditions, wd_63, Or.inl rfl, rfl, by decide, by decide +kernel, Or.inr ⟨rfl, rfl, rfl⟩⟩
theorem p_Contest_15_5 : ev_ps "PreferTable$Contest" "<init>" 15 5 1 (.array .int) := ⟨"PreferTable$Contest", "PreferTable$Contest", T_Contest, 3, gd_Contest, wd_84, Or.inl rfl, rfl, by decide, by decide +kernel, Or.inr ⟨rfl, rfl, rfl⟩⟩
theorem p_Contest_18_5 {m : String} : ev_ps "PreferTable$Contest" m 18 5 2 .int := ⟨"PreferTable$Contest", "PreferTable$Contest", T_Contest, 3, gd_Contest, wd_86, Or.inl rfl, rfl, by decide, by decide +kernel, Or.inl rfl⟩
theorem p_Contest_9_5 : ev_ps "PreferTable$Contest" "<init>" 9 5 0 (.array .int) := ⟨"PreferTable$Contest", "PreferTable$Contest", T_Contest, 3, gd_Contest, wd_83, Or.inl rfl, rfl, by decide, by decide +kernel, Or.inr ⟨rfl, rfl, rfl⟩⟩
theorem p_Graph_15_8 : ev_ps "PreferTable$Graph" "<init>" 15 8 1 (.array .int) := ⟨"PreferTable$Graph", "PreferTable$Graph", T_Graph, 7, gd_Graph, wd_523, Or.inl rfl, rfl, by decide, by decide +kernel, Or.inr ⟨rfl, rfl, rfl⟩⟩
theorem p_Graph_9_8 : ev_ps "PreferTable$Graph" "<init>" 9 8 0 (.array .int) := ⟨"PreferTable$Graph", "PreferTable$Graph", T_Graph, 7, gd_Graph, wd_522, Or.inl rfl, rfl, by decide, by decide +kernel, Or.inr ⟨rfl, rfl, rfl⟩⟩
theorem p_Layers_9_7 : ev_ps "PreferTable$Layers" "<init>" 9 7 0 (.array .int) := ⟨"PreferTable$Layers", "PreferTable$Layers", T_Layers, 6, gd_Layers, wd_484, Or.inl rfl, rfl, by decide, by decide +kernel, Or.inr ⟨rfl, rfl, rfl⟩⟩
theorem p_Md_102_10 {m : String} : ev_ps "PreferTableModel" m 102 10 4 .int := ⟨"PreferTableModel", "PreferTableModel", T_Md, 34, gd_Md, wd_776, Or.inl rfl, rfl, by decide, by decide +kernel, Or.inl rfl⟩
theorem p_Md_13_10 : ev_ps "PreferTableModel" "<init>" 13 10 3 (.array .int) := ⟨"PreferTableModel", "PreferTableModel", T_Md, 34, gd_Md, wd_775, Or.inl rfl, rfl, by decide, by decide +kernel, Or.inr ⟨rfl, rfl, rfl⟩⟩
theorem p_Md_163_10 {m : String} : ev_ps "PreferTableModel" m 163 10 22 .int := ⟨"PreferTableModel", "PreferTableModel", T_Md, 34, gd_Md, wd_794, Or.inl rfl, rfl, by decide, by decide +kernel, Or.inl rfl⟩
theorem p_Md_17_10 : ev_ps "PreferTableModel" "<init>" 17 10 5 (.array .int) := ⟨"PreferTableModel", "PreferTableModel", T_Md, 34, gd_Md, wd_777, Or.inl rfl, rfl, by decide, by decide +kernel, Or.inr ⟨rfl, rfl, rfl⟩⟩
theorem p_Md_180_10 {m : String} : ev_ps "PreferTableModel" m 180 10 24 .int := ⟨"PreferTableModel", "PreferTableModel", T_Md, 34, gd_Md, wd_796, Or.inl rfl, rfl, by decide, by decide +kernel, Or.inl rfl⟩
theorem p_Md_190_10 {m : String} : ev_ps "PreferTableModel" m 190 10 31 .int := ⟨"PreferTableModel", "PreferTableModel", T_Md, 34, gd_Md, wd_803, Or.inl rfl, rfl, by decide, by decide +kernel, Or.inl rfl⟩
theorem p_Md_20_10 : ev_ps "PreferTableModel" "<init>" 20 10 6 (.array .int) := ⟨"PreferTableModel", "PreferTableModel", T_Md, 34, gd_Md, wd_778, Or.inl rfl, rfl, by decide, by decide +kernel, Or.inr ⟨rfl, rfl, rfl⟩⟩
theorem p_Md_23_10 : ev_ps "PreferTableModel" "<init>" 23 10 7 (.array .int) := ⟨"PreferTableModel", "PreferTableModel", T_Md, 34, gd_Md, wd_779, Or.inl rfl, rfl, by decide, by decide +kernel, Or.inr ⟨rfl, rfl, rfl⟩⟩
theorem p_Md_26_10 : ev_ps "PreferTableModel" "<init>" 26 10 8 (.array .int) := ⟨"PreferTableModel", "PreferTableModel", T_Md, 34, gd_Md, wd_780, Or.inl rfl, rfl, by decide, by decide +kernel, Or.inr ⟨rfl, rfl, rfl⟩⟩
theorem p_Md_29_10 : ev_ps "PreferTableModel" "<init>" 29 10 9 (.array .int) := ⟨"PreferTableModel", "PreferTableModel", T_Md, 34, gd_Md, wd_781, Or.inl rfl, rfl, by decide, by decide +kernel, Or.inr ⟨rfl, rfl, rfl⟩⟩
theorem p_Md_32_10 : ev_ps "PreferTableModel" "<init>" 32 10 10 (.array .int) := ⟨"PreferTableModel", "PreferTableModel", T_Md, 34, gd_Md, wd_782, Or.inl rfl, rfl, by decide, by decide +kernel, Or.inr ⟨rfl, rfl, rfl⟩⟩
theorem p_Md_35_10 : ev_ps "PreferTableModel" "<init>" 35 10 11 (.array .int) := ⟨"PreferTableModel", "PreferTableModel", T_Md, 34, gd_Md, wd_783, Or.inl rfl, rfl, by decide, by decide +kernel, Or.inr ⟨rfl, rfl, rfl⟩⟩
theorem p_Md_38_10 : ev_ps "PreferTableModel" "<init>" 38 10 12 (.array .int) := ⟨"PreferTableModel", "PreferTableModel", T_Md, 34, gd_Md, wd_784, Or.inl rfl, rfl, by decide, by decide +kernel, Or.inr ⟨rfl, rfl, rfl⟩⟩
theorem p_Md_41_10 : ev_ps "PreferTableModel" "<init>" 41 10 13 (.array .int) := ⟨"PreferTableModel", "PreferTableModel", T_Md, 34, gd_Md, wd_785, Or.inl rfl, rfl, by decide, by decide +kernel, Or.inr ⟨rfl, rfl, rfl⟩⟩
theorem p_Md_44_10 : ev_ps "PreferTableModel" "<init>" 44 10 14 (.array .int) := ⟨"PreferTableModel", "PreferTableModel", T_Md, 34, gd_Md, wd_786, Or.inl rfl, rfl, by decide, by decide +kernel, Or.inr ⟨rfl, rfl, rfl⟩⟩
theorem p_Md_47_10 : ev_ps "PreferTableModel" "<init>" 47 10 15 (.array .int) := ⟨"PreferTableModel", "PreferTableModel", T_Md, 34, gd_Md, wd_787, Or.inl rfl, rfl, by decide, by decide +kernel, Or.inr ⟨rfl, rfl, rfl⟩⟩
theorem p_Md_50_10 : ev_ps "PreferTableModel" "<init>" 50 10 16 (.array .int) := ⟨"PreferTableModel", "PreferTableModel", T_Md, 34, gd_Md, wd_788, Or.inl rfl, rfl, by decide, by decide +kernel, Or.inr ⟨rfl, rfl, rfl⟩⟩
theorem p_Md_53_10 : ev_ps "PreferTableModel" "<init>" 53 10 17 (.array .boolean) := ⟨"PreferTableModel", "PreferTableModel", T_Md, 34, gd_Md, wd_789, Or.inl rfl, rfl, by decide, by decide +kernel, Or.inr ⟨rfl, rfl, rfl⟩⟩
theorem p_Md_56_10 : ev_ps "PreferTableModel" "<init>" 56 10 18 (.array .int) := ⟨"PreferTableModel", "PreferTableModel", T_Md, 34, gd_Md, wd_790, Or.inl rfl, rfl, by decide, by decide +kernel, Or.inr ⟨rfl, rfl, rfl⟩⟩
theorem p_Md_59_10 : ev_ps "PreferTableModel" "<init>" 59 10 19 (.array .boolean) := ⟨"PreferTableModel", "PreferTableModel", T_Md, 34, gd_Md, wd_791, Or.inl rfl, rfl, by decide, by decide +kernel, Or.inr ⟨rfl, rfl, rfl⟩⟩
theorem p_Md_62_10 : ev_ps "PreferTableModel" "<init>" 62 10 20 (.array .boolean) := ⟨"PreferTableModel", "PreferTableModel", T_Md, 34, gd_Md, wd_792, Or.inl rfl, rfl, by decide, by decide +kernel, Or.inr ⟨rfl, rfl, rfl⟩⟩
theorem p_Md_65_10 : ev_ps "PreferTableModel" "<init>" 65 10 21 (.array .int) := ⟨"PreferTableModel", "PreferTableModel", T_Md, 34, gd_Md, wd_793, Or.inl rfl, rfl, by decide, by decide +kernel, Or.inr ⟨rfl, rfl, rfl⟩⟩
theorem p_Md_68_10 : ev_ps "PreferTableModel" "<init>" 68 10 23 (.array .int) := ⟨"PreferTableModel", "PreferTableModel", T_Md, 34, gd_Md, wd_795, Or.inl rfl, rfl, by decide, by decide +kernel, Or.inr ⟨rfl, rfl, rfl⟩⟩
theorem p_Md_71_10 : ev_ps "PreferTableModel" "<init>" 71 10 25 (.array .int) := ⟨"PreferTableModel", "PreferTableModel", T_Md, 34, gd_Md, wd_797, Or.inl rfl, rfl, by decide, by decide +kernel, Or.inr ⟨rfl, rfl, rfl⟩⟩
theorem p_Md_74_10 : ev_ps "PreferTableModel" "<init>" 74 10 26 (.array .int) := ⟨"PreferTableModel", "PreferTableModel", T_Md, 34, gd_Md, wd_798, Or.inl rfl, rfl, by decide, by decide +kernel, Or.inr ⟨rfl, rfl, rfl⟩⟩
theorem p_Md_77_10 : ev_ps "PreferTableModel" "<init>" 77 10 27 (.array .int) := ⟨"PreferTableModel", "PreferTableModel", T_Md, 34, gd_Md, wd_799, Or.inl rfl, rfl, by decide, by decide +kernel, Or.inr ⟨rfl, rfl, rfl⟩⟩
theorem p_Md_7_10 : ev_ps "PreferTableModel" "<init>" 7 10 2 (.array .boolean) := ⟨"PreferTableModel", "PreferTableModel", T_Md, 34, gd_Md, wd_774, Or.inl rfl, rfl, by decide, by decide +kernel, Or.inr ⟨rfl, rfl, rfl⟩⟩
theorem p_Md_80_10 : ev_ps "PreferTableModel" "<init>" 80 10 28 (.array .int) := ⟨"PreferTableModel", "PreferTableModel", T_Md, 34, gd_Md, wd_800, Or.inl rfl, rfl, by decide, by decide +kernel, Or.inr ⟨rfl, rfl, rfl⟩⟩
theorem p_Md_83_10 : ev_ps "PreferTableModel" "<init>" 83 10 29 (.array .int) := ⟨"PreferTableModel", "PreferTableModel", T_Md, 34, gd_Md, wd_801, Or.inl rfl, rfl, by decide, by decide +kernel, Or.inr ⟨rfl, rfl, rfl⟩⟩
theorem p_Md_86_10 : ev_ps "PreferTableModel" "<init>" 86 10 30 (.array .int) := ⟨"PreferTableModel", "PreferTableModel", T_Md, 34, gd_Md, wd_802, Or.inl rfl, rfl, by decide, by decide +kernel, Or.inr ⟨rfl, rfl, rfl⟩⟩
theorem p_Md_89_10 : ev_ps "PreferTableModel" "<init>" 89 10 32 (.array .int) := ⟨"PreferTableModel", "PreferTableModel", T_Md, 34, gd_Md, wd_804, Or.inl rfl, rfl, by decide, by decide +kernel, Or.inr ⟨rfl, rfl, rfl⟩⟩
theorem p_Md_92_10 : ev_ps "PreferTableModel" "<init>" 92 10 33 (.array .int) := ⟨"PreferTableModel", "PreferTableModel", T_Md, 34, gd_Md, wd_805, Or.inl rfl, rfl, by decide, by decide +kernel, Or.inr ⟨rfl, rfl, rfl⟩⟩
theorem p_Md_95_10 {m : String} : ev_ps "PreferTableModel" m 95 10 0 .int := ⟨"PreferTableModel", "PreferTableModel", T_Md, 34, gd_Md, wd_772, Or.inl rfl, rfl, by decide, by decide +kernel, Or.inl rfl⟩
theorem p_Md_99_10 {m : String} : ev_ps "PreferTableModel" m 99 10 1 .int := ⟨"PreferTableModel", "PreferTableModel", T_Md, 34, gd_Md, wd_773, Or.inl rfl, rfl, by decide, by decide +kernel, Or.inl rfl⟩
theorem p_Node_13_6 : ev_ps "PreferTable$Node" "<init>" 13 6 4 .int := ⟨"PreferTable$Node", "PreferTable$ValueOrder", T_ValueOrder, 7, gd_ValueOrder, wd_495, Or.inl rfl, rfl, by decide, by decide +kernel, Or.inr ⟨rfl, rfl, rfl⟩⟩
theorem p_Node_13_7 : ev_ps "PreferTable$Node" "<init>" 13 7 3 .int := ⟨"PreferTable$Node", "PreferTable$Layers", T_Layers, 6, gd_Layers, wd_495, Or.inl rfl, rfl, by decide, by decide +kernel, Or.inr ⟨rfl, rfl, rfl⟩⟩
theorem p_Node_13_8 : ev_ps "PreferTable$Node" "<init>" 13 8 4 .int := ⟨"PreferTable$Node", "PreferTable$Graph", T_Graph, 7, gd_Graph, wd_495, Or.inl rfl, rfl, by decide, by decide +kernel, Or.inr ⟨rfl, rfl, rfl⟩⟩
theorem p_Node_13_9 : ev_ps "PreferTable$Node" "<init>" 13 9 3 .int := ⟨"PreferTable$Node", "PreferTable$Term", T_Term, 6, gd_Term, wd_495, Or.inl rfl, rfl, by decide, by decide +kernel, Or.inr ⟨rfl, rfl, rfl⟩⟩
theorem p_Node_16_6 : ev_ps "PreferTable$Node" "<init>" 16 6 5 .int := ⟨"PreferTable$Node", "PreferTable$ValueOrder", T_ValueOrder, 7, gd_ValueOrder, wd_499, Or.inl rfl, rfl, by decide, by decide +kernel, Or.inr ⟨rfl, rfl, rfl⟩⟩
theorem p_Node_16_7 : ev_ps "PreferTable$Node" "<init>" 16 7 4 .int := ⟨"PreferTable$Node", "PreferTable$Layers", T_Layers, 6, gd_Layers, wd_499, Or.inl rfl, rfl, by decide, by decide +kernel, Or.inr ⟨rfl, rfl, rfl⟩⟩
theorem p_Node_16_8 : ev_ps "PreferTable$Node" "<init>" 16 8 5 .int := ⟨"PreferTable$Node", "PreferTable$Graph", T_Graph, 7, gd_Graph, wd_499, Or.inl rfl, rfl, by decide, by decide +kernel, Or.inr ⟨rfl, rfl, rfl⟩⟩
theorem p_Node_16_9 : ev_ps "PreferTable$Node" "<init>" 16 9 4 .int := ⟨"PreferTable$Node", "PreferTable$Term", T_Term, 6, gd_Term, wd_499, Or.inl rfl, rfl, by decide, by decide +kernel, Or.inr ⟨rfl, rfl, rfl⟩⟩
theorem p_Node_19_6 : ev_ps "PreferTable$Node" "<init>" 19 6 6 .int := ⟨"PreferTable$Node", "PreferTable$ValueOrder", T_ValueOrder, 7, gd_ValueOrder, wd_502, Or.inl rfl, rfl, by decide, by decide +kernel, Or.inr ⟨rfl, rfl, rfl⟩⟩
theorem p_Node_19_7 : ev_ps "PreferTable$Node" "<init>" 19 7 5 .int := ⟨"PreferTable$Node", "PreferTable$Layers", T_Layers, 6, gd_Layers, wd_502, Or.inl rfl, rfl, by decide, by decide +kernel, Or.inr ⟨rfl, rfl, rfl⟩⟩
theorem p_Node_19_8 : ev_ps "PreferTable$Node" "<init>" 19 8 6 .int := ⟨"PreferTable$Node", "PreferTable$Graph", T_Graph, 7, gd_Graph, wd_502, Or.inl rfl, rfl, by decide, by decide +kernel, Or.inr ⟨rfl, rfl, rfl⟩⟩
theorem p_Node_19_9 : ev_ps "PreferTable$Node" "<init>" 19 9 5 .int := ⟨"PreferTable$Node", "PreferTable$Term", T_Term, 6, gd_Term, wd_502, Or.inl rfl, rfl, by decide, by decide +kernel, Or.inr ⟨rfl, rfl, rfl⟩⟩
theorem p_Node_7_6 : ev_ps "PreferTable$Node" "<init>" 7 6 3 .int := ⟨"PreferTable$Node", "PreferTable$ValueOrder", T_ValueOrder, 7, gd_ValueOrder, wd_487, Or.inl rfl, rfl, by decide, by decide +kernel, Or.inr ⟨rfl, rfl, rfl⟩⟩
theorem p_Node_7_7 : ev_ps "PreferTable$Node" "<init>" 7 7 2 .int := ⟨"PreferTable$Node", "PreferTable$Layers", T_Layers, 6, gd_Layers, wd_487, Or.inl rfl, rfl, by decide, by decide +kernel, Or.inr ⟨rfl, rfl, rfl⟩⟩
theorem p_Node_7_8 : ev_ps "PreferTable$Node" "<init>" 7 8 3 .int := ⟨"PreferTable$Node", "PreferTable$Graph", T_Graph, 7, gd_Graph, wd_487, Or.inl rfl, rfl, by decide, by decide +kernel, Or.inr ⟨rfl, rfl, rfl⟩⟩
theorem p_Node_7_9 : ev_ps "PreferTable$Node" "<init>" 7 9 2 .int := ⟨"PreferTable$Node", "PreferTable$Term", T_Term, 6, gd_Term, wd_487, Or.inl rfl, rfl, by decide, by decide +kernel, Or.inr ⟨rfl, rfl, rfl⟩⟩
theorem p_Order_9_6 : ev_ps "PreferTable$Order" "<init>" 9 6 2 .int := ⟨"PreferTable$Order", "PreferTable$ValueOrder", T_ValueOrder, 7, gd_ValueOrder, wd_486, Or.inl rfl, rfl, by decide, by decide +kernel, Or.inr ⟨rfl, rfl, rfl⟩⟩
theorem p_Order_9_7 : ev_ps "PreferTable$Order" "<init>" 9 7 1 .int := ⟨"PreferTable$Order", "PreferTable$Layers", T_Layers, 6, gd_Layers, wd_486, Or.inl rfl, rfl, by decide, by decide +kernel, Or.inr ⟨rfl, rfl, rfl⟩⟩
theorem p_Order_9_8 : ev_ps "PreferTable$Order" "<init>" 9 8 2 .int := ⟨"PreferTable$Order", "PreferTable$Graph", T_Graph, 7, gd_Graph, wd_486, Or.inl rfl, rfl, by decide, by decide +kernel, Or.inr ⟨rfl, rfl, rfl⟩⟩
theorem p_PT_12_0 : ev_ps "PreferTable" "<init>" 12 0 0 (.object "PreferTable$Rows") := ⟨"PreferTable", "PreferTable", T_PT, 11, gd_PT, wd_141, Or.inl rfl, rfl, by decide, by decide +kernel, Or.inr ⟨rfl, rfl, rfl⟩⟩
theorem p_PT_18_0 : ev_ps "PreferTable" "<init>" 18 0 1 (.array (.object "PreferTable$Node")) := ⟨"PreferTable", "PreferTable", T_PT, 11, gd_PT, wd_142, Or.inl rfl, rfl, by decide, by decide +kernel, Or.inr ⟨rfl, rfl, rfl⟩⟩
theorem p_PT_22_0 {m : String} : ev_ps "PreferTable" m 22 0 2 .int := ⟨"PreferTable", "PreferTable", T_PT, 11, gd_PT, wd_143, Or.inl rfl, rfl, by decide, by decide +kernel, Or.inl rfl⟩
theorem p_PT_274_4 {m : String} : ev_ps "PreferTable" m 274 4 4 .int := ⟨"PreferTable$Question", "PreferTable$Question", T_Question, 5, gd_Question, wd_129, Or.inl rfl, rfl, by decide, by decide +kernel, Or.inl rfl⟩
theorem p_PT_29_0 : ev_ps "PreferTable" "<init>" 29 0 3 (.object "PreferTable$Conditions") := ⟨"PreferTable", "PreferTable", T_PT, 11, gd_PT, wd_144, Or.inl rfl, rfl, by decide, by decide +kernel, Or.inr ⟨rfl, rfl, rfl⟩⟩
theorem p_PT_36_0 : ev_ps "PreferTable" "<init>" 36 0 4 (.object "PreferTable$Contest") := ⟨"PreferTable", "PreferTable", T_PT, 11, gd_PT, wd_145, Or.inl rfl, rfl, by decide, by decide +kernel, Or.inr ⟨rfl, rfl, rfl⟩⟩
theorem p_PT_43_0 : ev_ps "PreferTable" "<init>" 43 0 5 (.object "PreferTable$RowList") := ⟨"PreferTable", "PreferTable", T_PT, 11, gd_PT, wd_146, Or.inl rfl, rfl, by decide, by decide +kernel, Or.inr ⟨rfl, rfl, rfl⟩⟩
theorem p_PT_47_0 : ev_ps "PreferTable" "<init>" 47 0 6 (.object "PreferTable$RowList") := ⟨"PreferTable", "PreferTable", T_PT, 11, gd_PT, wd_147, Or.inl rfl, rfl, by decide, by decide +kernel, Or.inr ⟨rfl, rfl, rfl⟩⟩
theorem p_PT_52_0 : ev_ps "PreferTable" "<init>" 52 0 7 (.array (.object "PreferTable$Question")) := ⟨"PreferTable", "PreferTable", T_PT, 11, gd_PT, wd_148, Or.inl rfl, rfl, by decide, by decide +kernel, Or.inr ⟨rfl, rfl, rfl⟩⟩
theorem p_PT_56_0 {m : String} : ev_ps "PreferTable" m 56 0 8 .int := ⟨"PreferTable", "PreferTable", T_PT, 11, gd_PT, wd_149, Or.inl rfl, rfl, by decide, by decide +kernel, Or.inl rfl⟩
theorem p_PT_59_0 : ev_ps "PreferTable" "<init>" 59 0 9 (.array .int) := ⟨"PreferTable", "PreferTable", T_PT, 11, gd_PT, wd_150, Or.inl rfl, rfl, by decide, by decide +kernel, Or.inr ⟨rfl, rfl, rfl⟩⟩
theorem p_PT_63_0 {m : String} : ev_ps "PreferTable" m 63 0 10 .int := ⟨"PreferTable", "PreferTable", T_PT, 11, gd_PT, wd_151, Or.inl rfl, rfl, by decide, by decide +kernel, Or.inl rfl⟩
theorem p_Question_18_4 : ev_ps "PreferTable$Question" "<init>" 18 4 1 (.object "PreferTable$Conditions") := ⟨"PreferTable$Question", "PreferTable$Question", T_Question, 5, gd_Question, wd_122, Or.inl rfl, rfl, by decide, by decide +kernel, Or.inr ⟨rfl, rfl, rfl⟩⟩
theorem p_Question_25_4 : ev_ps "PreferTable$Question" "<init>" 25 4 2 (.object "PreferTable$RowList") := ⟨"PreferTable$Question", "PreferTable$Question", T_Question, 5, gd_Question, wd_124, Or.inl rfl, rfl, by decide, by decide +kernel, Or.inr ⟨rfl, rfl, rfl⟩⟩
theorem p_Question_29_4 : ev_ps "PreferTable$Question" "<init>" 29 4 3 (.object "PreferTable$RowList") := ⟨"PreferTable$Question", "PreferTable$Question", T_Question, 5, gd_Question, wd_126, Or.inl rfl, rfl, by decide, by decide +kernel, Or.inr ⟨rfl, rfl, rfl⟩⟩
theorem p_Question_32_4 {m : String} : ev_ps "PreferTable$Question" m 32 4 4 .int := ⟨"PreferTable$Question", "PreferTable$Question", T_Question, 5, gd_Question, wd_128, Or.inl rfl, rfl, by decide, by decide +kernel, Or.inl rfl⟩
theorem p_Question_9_4 {m : String} : ev_ps "PreferTable$Question" m 9 4 0 (.object "PreferTable$Node") := ⟨"PreferTable$Question", "PreferTable$Question", T_Question, 5, gd_Question, wd_120, Or.inl rfl, rfl, by decide, by decide +kernel, Or.inl rfl⟩
theorem p_RowList_15_2 {m : String} : ev_ps "PreferTable$RowList" m 15 2 1 .int := ⟨"PreferTable$RowList", "PreferTable$RowList", T_RowList, 2, gd_RowList, wd_101, Or.inl rfl, rfl, by decide, by decide +kernel, Or.inl rfl⟩
theorem p_RowList_9_2 : ev_ps "PreferTable$RowList" "<init>" 9 2 0 (.array .int) := ⟨"PreferTable$RowList", "PreferTable$RowList", T_RowList, 2, gd_RowList, wd_100, Or.inl rfl, rfl, by decide, by decide +kernel, Or.inr ⟨rfl, rfl, rfl⟩⟩
theorem p_Rows_17_1 : ev_ps "PreferTable$Rows" "<init>" 17 1 1 (.array (.array .int)) := ⟨"PreferTable$Rows", "PreferTable$Rows", T_Rows, 4, gd_Rows, wd_39, Or.inl rfl, rfl, by decide, by decide +kernel, Or.inr ⟨rfl, rfl, rfl⟩⟩
theorem p_Rows_20_1 {m : String} : ev_ps "PreferTable$Rows" m 20 1 2 .int := ⟨"PreferTable$Rows", "PreferTable$Rows", T_Rows, 4, gd_Rows, wd_42, Or.inl rfl, rfl, by decide, by decide +kernel, Or.inl rfl⟩
theorem p_Rows_24_1 {m : String} : ev_ps "PreferTable$Rows" m 24 1 3 .int := ⟨"PreferTable$Rows", "PreferTable$Rows", T_Rows, 4, gd_Rows, wd_44, Or.inl rfl, rfl, by decide, by decide +kernel, Or.inl rfl⟩
theorem p_Rows_9_1 : ev_ps "PreferTable$Rows" "<init>" 9 1 0 (.array .int) := ⟨"PreferTable$Rows", "PreferTable$Rows", T_Rows, 4, gd_Rows, wd_37, Or.inl rfl, rfl, by decide, by decide +kernel, Or.inr ⟨rfl, rfl, rfl⟩⟩
theorem p_Term_19_9 : ev_ps "PreferTable$Term" "<init>" 19 9 0 (.object "PreferTable$Node") := ⟨"PreferTable$Term", "PreferTable$Term", T_Term, 6, gd_Term, wd_597, Or.inl rfl, rfl, by decide, by decide +kernel, Or.inr ⟨rfl, rfl, rfl⟩⟩
theorem p_Term_23_9 : ev_ps "PreferTable$Term" "<init>" 23 9 1 (.object "PreferTable$Node") := ⟨"PreferTable$Term", "PreferTable$Term", T_Term, 6, gd_Term, wd_598, Or.inl rfl, rfl, by decide, by decide +kernel, Or.inr ⟨rfl, rfl, rfl⟩⟩
theorem p_ValueOrder_15_6 : ev_ps "PreferTable$ValueOrder" "<init>" 15 6 1 .int := ⟨"PreferTable$ValueOrder", "PreferTable$ValueOrder", T_ValueOrder, 7, gd_ValueOrder, wd_540, Or.inl rfl, rfl, by decide, by decide +kernel, Or.inr ⟨rfl, rfl, rfl⟩⟩
theorem p_ValueOrder_9_6 : ev_ps "PreferTable$ValueOrder" "<init>" 9 6 0 .int := ⟨"PreferTable$ValueOrder", "PreferTable$ValueOrder", T_ValueOrder, 7, gd_ValueOrder, wd_539, Or.inl rfl, rfl, by decide, by decide +kernel, Or.inr ⟨rfl, rfl, rfl⟩⟩
theorem s_Conditions_32 : ev_wS "PreferTable$Conditions" 32 m_Conditions_holds := ⟨cd_Conditions_holds, wd_257, wd_3, Or.inl wd_256⟩
theorem s_Contest_31 : ev_wS "PreferTable$Contest" 31 m_Contest_isIn := ⟨cd_Contest_isIn, wd_260, wd_4, Or.inl wd_259⟩
theorem s_Graph_18 : ev_wS "PreferTable$Graph" 18 m_PT_isGraded := ⟨cd_PT_isGraded, wd_206, wd_1, Or.inr ⟨_, wd_274⟩⟩
theorem s_Layers_19 : ev_wS "PreferTable$Layers" 19 m_PT_isGraded := ⟨cd_PT_isGraded, wd_206, wd_1, Or.inr ⟨_, wd_287⟩⟩
theorem s_Lw_103 : ev_wS "PreferTableLaw" 103 m_Lw_term := ⟨cd_Lw_term, wd_579, wd_0, Or.inl wd_578⟩
theorem s_Lw_106 : ev_wS "PreferTableLaw" 106 m_Lw_condition := ⟨cd_Lw_condition, wd_609, wd_0, Or.inl wd_608⟩
theorem s_Lw_113 : ev_wS "PreferTableLaw" 113 m_Lw_compare := ⟨cd_Lw_compare, wd_622, wd_0, Or.inl wd_621⟩
theorem s_Lw_116 : ev_wS "PreferTableLaw" 116 m_Lw_best := ⟨cd_Lw_best, wd_631, wd_0, Or.inl wd_630⟩
theorem s_Lw_120 : ev_wS "PreferTableLaw" 120 m_Lw_grouped := ⟨cd_Lw_grouped, wd_639, wd_0, Or.inl wd_638⟩
theorem s_Lw_123 : ev_wS "PreferTableLaw" 123 m_Lw_top := ⟨cd_Lw_top, wd_651, wd_0, Or.inl wd_650⟩
theorem s_Lw_126 : ev_wS "PreferTableLaw" 126 m_Lw_level := ⟨cd_Lw_level, wd_675, wd_0, Or.inl wd_674⟩
theorem s_Lw_133 : ev_wS "PreferTableLaw" 133 m_Lw_reason := ⟨cd_Lw_reason, wd_682, wd_0, Or.inl wd_681⟩
theorem s_Lw_136 : ev_wS "PreferTableLaw" 136 m_Lw_save := ⟨cd_Lw_save, wd_696, wd_0, Or.inl wd_695⟩
theorem s_Lw_147 : ev_wS "PreferTableLaw" 147 m_Lw_reduce := ⟨cd_Lw_reduce, wd_714, wd_0, Or.inl wd_713⟩
theorem s_Lw_150 : ev_wS "PreferTableLaw" 150 m_Lw_form := ⟨cd_Lw_form, wd_759, wd_0, Or.inl wd_758⟩
theorem s_Lw_69 : ev_wS "PreferTableLaw" 69 m_Lw_row := ⟨cd_Lw_row, wd_338, wd_0, Or.inl wd_337⟩
theorem s_Lw_88 : ev_wS "PreferTableLaw" 88 m_Lw_value := ⟨cd_Lw_value, wd_422, wd_0, Or.inl wd_421⟩
theorem s_Lw_92 : ev_wS "PreferTableLaw" 92 m_Lw_order := ⟨cd_Lw_order, wd_446, wd_0, Or.inl wd_445⟩
theorem s_Lw_99 : ev_wS "PreferTableLaw" 99 m_Lw_edge := ⟨cd_Lw_edge, wd_556, wd_0, Or.inl wd_555⟩
theorem s_Md_113 : ev_wS "PreferTableModel" 113 m_Md_isColumn := ⟨cd_Md_isColumn, wd_897, wd_7, Or.inl wd_896⟩
theorem s_Md_119 : ev_wS "PreferTableModel" 119 m_Md_isPlain := ⟨cd_Md_isPlain, wd_920, wd_7, Or.inl wd_919⟩
theorem s_Md_128 : ev_wS "PreferTableModel" 128 m_Md_byLess := ⟨cd_Md_byLess, wd_947, wd_7, Or.inl wd_946⟩
theorem s_Md_143 : ev_wS "PreferTableModel" 143 m_Md_pareto := ⟨cd_Md_pareto, wd_967, wd_7, Or.inl wd_966⟩
theorem s_Md_155 : ev_wS "PreferTableModel" 155 m_Md_holds := ⟨cd_Md_holds, wd_990, wd_7, Or.inl wd_989⟩
theorem s_PT_121 : ev_wS "PreferTable" 121 m_PT_isGraded := ⟨cd_PT_isGraded, wd_206, wd_1, Or.inl wd_205⟩
theorem s_PT_141 : ev_wS "PreferTable" 141 m_Term_sizeOf := ⟨cd_Term_sizeOf, wd_587, wd_20, Or.inl wd_586⟩
theorem s_PT_204 : ev_wS "PreferTable" 204 m_PT_walkToDecider := ⟨cd_PT_walkToDecider, wd_689, wd_1, Or.inl wd_688⟩
theorem s_PT_208 : ev_wS "PreferTable" 208 m_PT_isQuestion := ⟨cd_PT_isQuestion, wd_238, wd_1, Or.inl wd_237⟩
theorem s_PT_86 : ev_wS "PreferTable" 86 m_PT_isColumn := ⟨cd_PT_isColumn, wd_184, wd_1, Or.inl wd_183⟩
theorem s_Term_3 : ev_wS "PreferTable$Term" 3 m_Term_sizeOf := ⟨cd_Term_sizeOf, wd_587, wd_20, Or.inl wd_595⟩
theorem s_Term_36 : ev_wS "PreferTable$Term" 36 m_Term_changedOver := ⟨cd_Term_changedOver, wd_302, wd_20, Or.inl wd_301⟩
theorem s_Term_40 : ev_wS "PreferTable$Term" 40 m_Term_paretoOf := ⟨cd_Term_paretoOf, wd_305, wd_20, Or.inl wd_304⟩
theorem s_Term_48 : ev_wS "PreferTable$Term" 48 m_Term_reduceDual := ⟨cd_Term_reduceDual, wd_741, wd_20, Or.inl wd_740⟩
theorem s_Term_52 : ev_wS "PreferTable$Term" 52 m_Term_areAlike := ⟨cd_Term_areAlike, wd_748, wd_20, Or.inl wd_747⟩
theorem s_Term_60 : ev_wS "PreferTable$Term" 60 m_Term_moveBack := ⟨cd_Term_moveBack, wd_744, wd_20, Or.inl wd_743⟩
theorem s_Term_64 : ev_wS "PreferTable$Term" 64 m_Term_pullDualOut := ⟨cd_Term_pullDualOut, wd_755, wd_20, Or.inl wd_754⟩
theorem u_Contest_39_6 : ev_wU "PreferTable$Contest" 39 6 ⟨"PreferTable$Node", "says", "([I[I)I"⟩ m_Order_says := ⟨"PreferTable$ValueOrder", "PreferTable$Node", _, _, rfl, cd_Order_says, wd_266, wd_307, wd_262, wd_264, Or.inl wd_263, by decide⟩
theorem u_Contest_39_7 : ev_wU "PreferTable$Contest" 39 7 ⟨"PreferTable$Node", "says", "([I[I)I"⟩ m_Order_says := ⟨"PreferTable$Layers", "PreferTable$Node", _, _, rfl, cd_Order_says, wd_266, wd_296, wd_262, wd_264, Or.inl wd_263, by decide⟩
theorem u_Contest_39_8 : ev_wU "PreferTable$Contest" 39 8 ⟨"PreferTable$Node", "says", "([I[I)I"⟩ m_Order_says := ⟨"PreferTable$Graph", "PreferTable$Node", _, _, rfl, cd_Order_says, wd_266, wd_265, wd_262, wd_264, Or.inl wd_263, by decide⟩
theorem u_Contest_39_9 : ev_wU "PreferTable$Contest" 39 9 ⟨"PreferTable$Node", "says", "([I[I)I"⟩ m_Term_says := ⟨"PreferTable$Term", "PreferTable$Node", _, _, rfl, cd_Term_says, wd_298, wd_297, wd_262, wd_264, Or.inl wd_263, by decide⟩
theorem u_Order_15_6 : ev_wU "PreferTable$Order" 15 6 ⟨"PreferTable$Order", "prefers", "(II)Z"⟩ m_ValueOrder_prefers := ⟨"PreferTable$ValueOrder", "PreferTable$Order", _, _, rfl, cd_ValueOrder_prefers, wd_289, wd_288, wd_268, wd_270, Or.inl wd_269, by decide⟩
theorem u_Order_15_7 : ev_wU "PreferTable$Order" 15 7 ⟨"PreferTable$Order", "prefers", "(II)Z"⟩ m_Layers_prefers := ⟨"PreferTable$Layers", "PreferTable$Order", _, _, rfl, cd_Layers_prefers, wd_280, wd_279, wd_268, wd_270, Or.inl wd_269, by decide⟩
theorem u_Order_15_8 : ev_wU "PreferTable$Order" 15 8 ⟨"PreferTable$Order", "prefers", "(II)Z"⟩ m_Graph_prefers := ⟨"PreferTable$Graph", "PreferTable$Order", _, _, rfl, cd_Graph_prefers, wd_272, wd_271, wd_268, wd_270, Or.inl wd_269, by decide⟩
theorem u_Order_22_6 : ev_wU "PreferTable$Order" 22 6 ⟨"PreferTable$Order", "putOwn", "([II)I"⟩ m_ValueOrder_putOwn := ⟨"PreferTable$ValueOrder", "PreferTable$Order", _, _, rfl, cd_ValueOrder_putOwn, wd_732, wd_731, wd_726, wd_728, Or.inr ⟨wd_727, _, _, _, wd_734⟩, by decide⟩
theorem u_PT_167_6 : ev_wU "PreferTable" 167 6 ⟨"PreferTable$Node", "says", "([I[I)I"⟩ m_Order_says := ⟨"PreferTable$ValueOrder", "PreferTable$Node", _, _, rfl, cd_Order_says, wd_266, wd_307, wd_629, wd_264, Or.inl wd_263, by decide⟩
theorem u_PT_167_7 : ev_wU "PreferTable" 167 7 ⟨"PreferTable$Node", "says", "([I[I)I"⟩ m_Order_says := ⟨"PreferTable$Layers", "PreferTable$Node", _, _, rfl, cd_Order_says, wd_266, wd_296, wd_629, wd_264, Or.inl wd_263, by decide⟩
theorem u_PT_167_8 : ev_wU "PreferTable" 167 8 ⟨"PreferTable$Node", "says", "([I[I)I"⟩ m_Order_says := ⟨"PreferTable$Graph", "PreferTable$Node", _, _, rfl, cd_Order_says, wd_266, wd_265, wd_629, wd_264, Or.inl wd_263, by decide⟩
theorem u_PT_167_9 : ev_wU "PreferTable" 167 9 ⟨"PreferTable$Node", "says", "([I[I)I"⟩ m_Term_says := ⟨"PreferTable$Term", "PreferTable$Node", _, _, rfl, cd_Term_says, wd_298, wd_297, wd_629, wd_264, Or.inl wd_263, by decide⟩
theorem u_PT_233_6 : ev_wU "PreferTable" 233 6 ⟨"PreferTable$Node", "putReduced", "([II)I"⟩ m_Order_putReduced := ⟨"PreferTable$ValueOrder", "PreferTable$Node", _, _, rfl, cd_Order_putReduced, wd_724, wd_757, wd_720, wd_722, Or.inl wd_721, by decide⟩
theorem u_PT_233_7 : ev_wU "PreferTable" 233 7 ⟨"PreferTable$Node", "putReduced", "([II)I"⟩ m_Order_putReduced := ⟨"PreferTable$Layers", "PreferTable$Node", _, _, rfl, cd_Order_putReduced, wd_724, wd_735, wd_720, wd_722, Or.inl wd_721, by decide⟩
theorem u_PT_233_8 : ev_wU "PreferTable" 233 8 ⟨"PreferTable$Node", "putReduced", "([II)I"⟩ m_Order_putReduced := ⟨"PreferTable$Graph", "PreferTable$Node", _, _, rfl, cd_Order_putReduced, wd_724, wd_723, wd_720, wd_722, Or.inl wd_721, by decide⟩
theorem u_PT_233_9 : ev_wU "PreferTable" 233 9 ⟨"PreferTable$Node", "putReduced", "([II)I"⟩ m_Term_putReduced := ⟨"PreferTable$Term", "PreferTable$Node", _, _, rfl, cd_Term_putReduced, wd_737, wd_736, wd_720, wd_722, Or.inl wd_721, by decide⟩
theorem u_Term_29_6 : ev_wU "PreferTable$Term" 29 6 ⟨"PreferTable$Node", "says", "([I[I)I"⟩ m_Order_says := ⟨"PreferTable$ValueOrder", "PreferTable$Node", _, _, rfl, cd_Order_says, wd_266, wd_307, wd_300, wd_264, Or.inl wd_263, by decide⟩
theorem u_Term_29_7 : ev_wU "PreferTable$Term" 29 7 ⟨"PreferTable$Node", "says", "([I[I)I"⟩ m_Order_says := ⟨"PreferTable$Layers", "PreferTable$Node", _, _, rfl, cd_Order_says, wd_266, wd_296, wd_300, wd_264, Or.inl wd_263, by decide⟩
theorem u_Term_29_8 : ev_wU "PreferTable$Term" 29 8 ⟨"PreferTable$Node", "says", "([I[I)I"⟩ m_Order_says := ⟨"PreferTable$Graph", "PreferTable$Node", _, _, rfl, cd_Order_says, wd_266, wd_265, wd_300, wd_264, Or.inl wd_263, by decide⟩
theorem u_Term_29_9 : ev_wU "PreferTable$Term" 29 9 ⟨"PreferTable$Node", "says", "([I[I)I"⟩ m_Term_says := ⟨"PreferTable$Term", "PreferTable$Node", _, _, rfl, cd_Term_says, wd_298, wd_297, wd_300, wd_264, Or.inl wd_263, by decide⟩
theorem u_Term_44_6 : ev_wU "PreferTable$Term" 44 6 ⟨"PreferTable$Node", "putReduced", "([II)I"⟩ m_Order_putReduced := ⟨"PreferTable$ValueOrder", "PreferTable$Node", _, _, rfl, cd_Order_putReduced, wd_724, wd_757, wd_739, wd_722, Or.inl wd_721, by decide⟩
theorem u_Term_44_7 : ev_wU "PreferTable$Term" 44 7 ⟨"PreferTable$Node", "putReduced", "([II)I"⟩ m_Order_putReduced := ⟨"PreferTable$Layers", "PreferTable$Node", _, _, rfl, cd_Order_putReduced, wd_724, wd_735, wd_739, wd_722, Or.inl wd_721, by decide⟩
theorem u_Term_44_8 : ev_wU "PreferTable$Term" 44 8 ⟨"PreferTable$Node", "putReduced", "([II)I"⟩ m_Order_putReduced := ⟨"PreferTable$Graph", "PreferTable$Node", _, _, rfl, cd_Order_putReduced, wd_724, wd_723, wd_739, wd_722, Or.inl wd_721, by decide⟩
theorem u_Term_44_9 : ev_wU "PreferTable$Term" 44 9 ⟨"PreferTable$Node", "putReduced", "([II)I"⟩ m_Term_putReduced := ⟨"PreferTable$Term", "PreferTable$Node", _, _, rfl, cd_Term_putReduced, wd_737, wd_736, wd_739, wd_722, Or.inl wd_721, by decide⟩
theorem v_Conditions_25_3 : ev_wV "PreferTable$Conditions" 25 3 m_Conditions_clear := ⟨"PreferTable$Conditions", _, _, rfl, cd_Conditions_clear, wd_214, wd_215, Or.inl wd_711⟩
theorem v_Conditions_28_3 : ev_wV "PreferTable$Conditions" 28 3 m_Conditions_add := ⟨"PreferTable$Conditions", _, _, rfl, cd_Conditions_add, wd_618, wd_619, Or.inl wd_712⟩
theorem v_Contest_22_5 : ev_wV "PreferTable$Contest" 22 5 m_Contest_letIn := ⟨"PreferTable$Contest", _, _, rfl, cd_Contest_letIn, wd_250, (ev_memS 3 (by decide +kernel)), Or.inl wd_248⟩
theorem v_Contest_45_5 : ev_wV "PreferTable$Contest" 45 5 m_Contest_note := ⟨"PreferTable$Contest", _, _, rfl, cd_Contest_note, wd_310, (ev_memS 6 (by decide +kernel)), Or.inl wd_308⟩
theorem v_Contest_49_3 : ev_wV "PreferTable$Contest" 49 3 m_Conditions_pass := ⟨"PreferTable$Conditions", _, _, rfl, cd_Conditions_pass, wd_253, wd_254, Or.inl wd_252⟩
theorem v_Contest_55_2 : ev_wV "PreferTable$Contest" 55 2 m_RowList_clear := ⟨"PreferTable$RowList", _, _, rfl, cd_RowList_clear, wd_317, wd_318, Or.inl wd_316⟩
theorem v_Contest_63_2 : ev_wV "PreferTable$Contest" 63 2 m_RowList_add := ⟨"PreferTable$RowList", _, _, rfl, cd_RowList_add, wd_321, wd_322, Or.inl wd_320⟩
theorem v_Contest_67_5 : ev_wV "PreferTable$Contest" 67 5 m_Contest_setLevel := ⟨"PreferTable$Contest", _, _, rfl, cd_Contest_setLevel, wd_664, (ev_memS 12 (by decide +kernel)), Or.inl wd_662⟩
theorem v_Contest_71_5 : ev_wV "PreferTable$Contest" 71 5 m_Contest_unbeatenAmong := ⟨"PreferTable$Contest", _, _, rfl, cd_Contest_unbeatenAmong, wd_668, (ev_memS 13 (by decide +kernel)), Or.inl wd_666⟩
theorem v_Graph_22_8 : ev_wV "PreferTable$Graph" 22 8 m_Graph_leads := ⟨"PreferTable$Graph", _, _, rfl, cd_Graph_leads, wd_276, wd_277, Or.inl wd_275⟩
theorem v_Layers_15_7 : ev_wV "PreferTable$Layers" 15 7 m_Layers_find := ⟨"PreferTable$Layers", _, _, rfl, cd_Layers_find, wd_284, (ev_memS 4 (by decide +kernel)), Or.inl wd_282⟩
theorem v_Lw_102_10 : ev_wV "PreferTableLaw" 102 10 m_Md_edge := ⟨"PreferTableModel", _, _, rfl, cd_Md_edge, wd_923, wd_924, Or.inl wd_922⟩
theorem v_Lw_105_10 : ev_wV "PreferTableLaw" 105 10 m_Md_term := ⟨"PreferTableModel", _, _, rfl, cd_Md_term, wd_931, wd_932, Or.inl wd_930⟩
theorem v_Lw_108_10 : ev_wV "PreferTableLaw" 108 10 m_Md_condition := ⟨"PreferTableModel", _, _, rfl, cd_Md_condition, wd_970, wd_971, Or.inl wd_969⟩
theorem v_Lw_109_0 : ev_wV "PreferTableLaw" 109 0 m_PT_free := ⟨"PreferTable", _, _, rfl, cd_PT_free, wd_210, wd_211, Or.inl wd_209⟩
theorem v_Lw_112_10 : ev_wV "PreferTableLaw" 112 10 m_Md_free := ⟨"PreferTableModel", _, _, rfl, cd_Md_free, wd_974, wd_975, Or.inl wd_973⟩
theorem v_Lw_115_10 : ev_wV "PreferTableLaw" 115 10 m_Md_compare := ⟨"PreferTableModel", _, _, rfl, cd_Md_compare, wd_935, wd_936, Or.inl wd_934⟩
theorem v_Lw_119_10 : ev_wV "PreferTableLaw" 119 10 m_Md_best := ⟨"PreferTableModel", _, _, rfl, cd_Md_best, wd_978, wd_979, Or.inl wd_977⟩
theorem v_Lw_122_10 : ev_wV "PreferTableLaw" 122 10 m_Md_grouped := ⟨"PreferTableModel", _, _, rfl, cd_Md_grouped, wd_997, wd_998, Or.inl wd_996⟩
theorem v_Lw_125_10 : ev_wV "PreferTableLaw" 125 10 m_Md_top := ⟨"PreferTableModel", _, _, rfl, cd_Md_top, wd_1001, wd_1002, Or.inl wd_1000⟩
theorem v_Lw_128_10 : ev_wV "PreferTableLaw" 128 10 m_Md_level := ⟨"PreferTableModel", _, _, rfl, cd_Md_level, wd_1009, wd_1010, Or.inl wd_1008⟩
theorem v_Lw_129_0 : ev_wV "PreferTableLaw" 129 0 m_PT_answer := ⟨"PreferTable", _, _, rfl, cd_PT_answer, wd_218, wd_219, Or.inl wd_217⟩
theorem v_Lw_132_10 : ev_wV "PreferTableLaw" 132 10 m_Md_answer := ⟨"PreferTableModel", _, _, rfl, cd_Md_answer, wd_1013, wd_1014, Or.inl wd_1012⟩
theorem v_Lw_135_10 : ev_wV "PreferTableLaw" 135 10 m_Md_reason := ⟨"PreferTableModel", _, _, rfl, cd_Md_reason, wd_1017, wd_1018, Or.inl wd_1016⟩
theorem v_Lw_138_10 : ev_wV "PreferTableLaw" 138 10 m_Md_save := ⟨"PreferTableModel", _, _, rfl, cd_Md_save, wd_1021, wd_1022, Or.inl wd_1020⟩
theorem v_Lw_139_0 : ev_wV "PreferTableLaw" 139 0 m_PT_saved := ⟨"PreferTable", _, _, rfl, cd_PT_saved, wd_230, wd_231, Or.inl wd_229⟩
theorem v_Lw_142_10 : ev_wV "PreferTableLaw" 142 10 m_Md_saved := ⟨"PreferTableModel", _, _, rfl, cd_Md_saved, wd_1029, wd_1030, Or.inl wd_1028⟩
theorem v_Lw_143_0 : ev_wV "PreferTableLaw" 143 0 m_PT_read := ⟨"PreferTable", _, _, rfl, cd_PT_read, wd_325, wd_326, Or.inl wd_324⟩
theorem v_Lw_146_10 : ev_wV "PreferTableLaw" 146 10 m_Md_read := ⟨"PreferTableModel", _, _, rfl, cd_Md_read, wd_1033, wd_1034, Or.inl wd_1032⟩
theorem v_Lw_149_10 : ev_wV "PreferTableLaw" 149 10 m_Md_reduce := ⟨"PreferTableModel", _, _, rfl, cd_Md_reduce, wd_1037, wd_1038, Or.inl wd_1036⟩
theorem v_Lw_152_10 : ev_wV "PreferTableLaw" 152 10 m_Md_form := ⟨"PreferTableModel", _, _, rfl, cd_Md_form, wd_1065, wd_1066, Or.inl wd_1064⟩
theorem v_Lw_15_0 : ev_wV "PreferTableLaw" 15 0 m_PT_value := ⟨"PreferTable", _, _, rfl, cd_PT_value, wd_426, wd_427, Or.inl wd_425⟩
theorem v_Lw_21_0 : ev_wV "PreferTableLaw" 21 0 m_PT_order := ⟨"PreferTable", _, _, rfl, cd_PT_order, wd_450, wd_451, Or.inl wd_449⟩
theorem v_Lw_26_0 : ev_wV "PreferTableLaw" 26 0 m_PT_edge := ⟨"PreferTable", _, _, rfl, cd_PT_edge, wd_559, wd_560, Or.inl wd_558⟩
theorem v_Lw_30_0 : ev_wV "PreferTableLaw" 30 0 m_PT_term := ⟨"PreferTable", _, _, rfl, cd_PT_term, wd_582, wd_583, Or.inl wd_581⟩
theorem v_Lw_34_0 : ev_wV "PreferTableLaw" 34 0 m_PT_condition := ⟨"PreferTable", _, _, rfl, cd_PT_condition, wd_612, wd_613, Or.inl wd_611⟩
theorem v_Lw_37_0 : ev_wV "PreferTableLaw" 37 0 m_PT_compare := ⟨"PreferTable", _, _, rfl, cd_PT_compare, wd_625, wd_626, Or.inl wd_624⟩
theorem v_Lw_40_0 : ev_wV "PreferTableLaw" 40 0 m_PT_best := ⟨"PreferTable", _, _, rfl, cd_PT_best, wd_634, wd_635, Or.inl wd_633⟩
theorem v_Lw_44_0 : ev_wV "PreferTableLaw" 44 0 m_PT_grouped := ⟨"PreferTable", _, _, rfl, cd_PT_grouped, wd_642, wd_643, Or.inl wd_641⟩
theorem v_Lw_47_0 : ev_wV "PreferTableLaw" 47 0 m_PT_top := ⟨"PreferTable", _, _, rfl, cd_PT_top, wd_654, wd_655, Or.inl wd_653⟩
theorem v_Lw_50_0 : ev_wV "PreferTableLaw" 50 0 m_PT_level := ⟨"PreferTable", _, _, rfl, cd_PT_level, wd_678, wd_679, Or.inl wd_677⟩
theorem v_Lw_53_0 : ev_wV "PreferTableLaw" 53 0 m_PT_reason := ⟨"PreferTable", _, _, rfl, cd_PT_reason, wd_685, wd_686, Or.inl wd_684⟩
theorem v_Lw_56_0 : ev_wV "PreferTableLaw" 56 0 m_PT_save := ⟨"PreferTable", _, _, rfl, cd_PT_save, wd_699, wd_700, Or.inl wd_698⟩
theorem v_Lw_59_0 : ev_wV "PreferTableLaw" 59 0 m_PT_reduce := ⟨"PreferTable", _, _, rfl, cd_PT_reduce, wd_717, wd_718, Or.inl wd_716⟩
theorem v_Lw_62_0 : ev_wV "PreferTableLaw" 62 0 m_PT_form := ⟨"PreferTable", _, _, rfl, cd_PT_form, wd_762, wd_763, Or.inl wd_761⟩
theorem v_Lw_74_10 : ev_wV "PreferTableLaw" 74 10 m_Md_row := ⟨"PreferTableModel", _, _, rfl, cd_Md_row, wd_881, wd_882, Or.inl wd_880⟩
theorem v_Lw_75_10 : ev_wV "PreferTableLaw" 75 10 m_Md_thrown := ⟨"PreferTableModel", _, _, rfl, cd_Md_thrown, wd_877, wd_878, Or.inl wd_876⟩
theorem v_Lw_79_0 : ev_wV "PreferTableLaw" 79 0 m_PT_change := ⟨"PreferTable", _, _, rfl, cd_PT_change, wd_176, wd_177, Or.inl wd_175⟩
theorem v_Lw_7_0 : ev_wV "PreferTableLaw" 7 0 m_PT_row := ⟨"PreferTable", _, _, rfl, cd_PT_row, wd_342, wd_343, Or.inl wd_341⟩
theorem v_Lw_82_10 : ev_wV "PreferTableLaw" 82 10 m_Md_change := ⟨"PreferTableModel", _, _, rfl, cd_Md_change, wd_889, wd_890, Or.inl wd_888⟩
theorem v_Lw_83_0 : ev_wV "PreferTableLaw" 83 0 m_PT_remove := ⟨"PreferTable", _, _, rfl, cd_PT_remove, wd_187, wd_188, Or.inl wd_186⟩
theorem v_Lw_87_10 : ev_wV "PreferTableLaw" 87 10 m_Md_remove := ⟨"PreferTableModel", _, _, rfl, cd_Md_remove, wd_900, wd_901, Or.inl wd_899⟩
theorem v_Lw_91_10 : ev_wV "PreferTableLaw" 91 10 m_Md_value := ⟨"PreferTableModel", _, _, rfl, cd_Md_value, wd_904, wd_905, Or.inl wd_903⟩
theorem v_Lw_94_10 : ev_wV "PreferTableLaw" 94 10 m_Md_order := ⟨"PreferTableModel", _, _, rfl, cd_Md_order, wd_908, wd_909, Or.inl wd_907⟩
theorem v_Lw_95_0 : ev_wV "PreferTableLaw" 95 0 m_PT_layer := ⟨"PreferTable", _, _, rfl, cd_PT_layer, wd_198, wd_199, Or.inl wd_197⟩
theorem v_Lw_98_10 : ev_wV "PreferTableLaw" 98 10 m_Md_layer := ⟨"PreferTableModel", _, _, rfl, cd_Md_layer, wd_912, wd_913, Or.inl wd_911⟩
theorem v_Md_105_10 : ev_wV "PreferTableModel" 105 10 m_Md_present := ⟨"PreferTableModel", _, _, rfl, cd_Md_present, wd_886, (ev_memS 15 (by decide +kernel)), Or.inl wd_884⟩
theorem v_Md_109_10 : ev_wV "PreferTableModel" 109 10 m_Md_isRow := ⟨"PreferTableModel", _, _, rfl, cd_Md_isRow, wd_894, (ev_memS 16 (by decide +kernel)), Or.inl wd_892⟩
theorem v_Md_116_10 : ev_wV "PreferTableModel" 116 10 m_Md_isNode := ⟨"PreferTableModel", _, _, rfl, cd_Md_isNode, wd_917, (ev_memS 17 (by decide +kernel)), Or.inl wd_915⟩
theorem v_Md_122_10 : ev_wV "PreferTableModel" 122 10 m_Md_reached := ⟨"PreferTableModel", _, _, rfl, cd_Md_reached, wd_928, (ev_memS 18 (by decide +kernel)), Or.inl wd_926⟩
theorem v_Md_132_10 : ev_wV "PreferTableModel" 132 10 m_Md_depth := ⟨"PreferTableModel", _, _, rfl, cd_Md_depth, wd_951, (ev_memS 21 (by decide +kernel)), Or.inl wd_949⟩
theorem v_Md_136_10 : ev_wV "PreferTableModel" 136 10 m_Md_graph := ⟨"PreferTableModel", _, _, rfl, cd_Md_graph, wd_956, (ev_memS 22 (by decide +kernel)), Or.inl wd_954⟩
theorem v_Md_140_10 : ev_wV "PreferTableModel" 140 10 m_Md_distance := ⟨"PreferTableModel", _, _, rfl, cd_Md_distance, wd_960, (ev_memS 23 (by decide +kernel)), Or.inl wd_958⟩
theorem v_Md_146_10 : ev_wV "PreferTableModel" 146 10 m_Md_ordered := ⟨"PreferTableModel", _, _, rfl, cd_Md_ordered, wd_944, (ev_memS 20 (by decide +kernel)), Or.inl wd_942⟩
theorem v_Md_149_10 : ev_wV "PreferTableModel" 149 10 m_Md_joined := ⟨"PreferTableModel", _, _, rfl, cd_Md_joined, wd_964, (ev_memS 24 (by decide +kernel)), Or.inl wd_962⟩
theorem v_Md_152_10 : ev_wV "PreferTableModel" 152 10 m_Md_say := ⟨"PreferTableModel", _, _, rfl, cd_Md_say, wd_940, (ev_memS 19 (by decide +kernel)), Or.inl wd_938⟩
theorem v_Md_159_10 : ev_wV "PreferTableModel" 159 10 m_Md_passes := ⟨"PreferTableModel", _, _, rfl, cd_Md_passes, wd_987, (ev_memS 26 (by decide +kernel)), Or.inl wd_985⟩
theorem v_Md_166_10 : ev_wV "PreferTableModel" 166 10 m_Md_mark := ⟨"PreferTableModel", _, _, rfl, cd_Md_mark, wd_983, (ev_memS 25 (by decide +kernel)), Or.inl wd_981⟩
theorem v_Md_169_10 : ev_wV "PreferTableModel" 169 10 m_Md_answerBest := ⟨"PreferTableModel", _, _, rfl, cd_Md_answerBest, wd_994, (ev_memS 27 (by decide +kernel)), Or.inl wd_992⟩
theorem v_Md_172_10 : ev_wV "PreferTableModel" 172 10 m_Md_weigh := ⟨"PreferTableModel", _, _, rfl, cd_Md_weigh, wd_1006, (ev_memS 28 (by decide +kernel)), Or.inl wd_1004⟩
theorem v_Md_176_10 : ev_wV "PreferTableModel" 176 10 m_Md_readNow := ⟨"PreferTableModel", _, _, rfl, cd_Md_readNow, wd_1026, (ev_memS 29 (by decide +kernel)), Or.inl wd_1024⟩
theorem v_Md_183_10 : ev_wV "PreferTableModel" 183 10 m_Md_place := ⟨"PreferTableModel", _, _, rfl, cd_Md_place, wd_1046, (ev_memS 31 (by decide +kernel)), Or.inl wd_1044⟩
theorem v_Md_187_10 : ev_wV "PreferTableModel" 187 10 m_Md_dual := ⟨"PreferTableModel", _, _, rfl, cd_Md_dual, wd_1054, (ev_memS 33 (by decide +kernel)), Or.inl wd_1052⟩
theorem v_Md_193_10 : ev_wV "PreferTableModel" 193 10 m_Md_emit := ⟨"PreferTableModel", _, _, rfl, cd_Md_emit, wd_1062, (ev_memS 35 (by decide +kernel)), Or.inl wd_1060⟩
theorem v_Md_196_10 : ev_wV "PreferTableModel" 196 10 m_Md_reducedOrder := ⟨"PreferTableModel", _, _, rfl, cd_Md_reducedOrder, wd_1042, (ev_memS 30 (by decide +kernel)), Or.inl wd_1040⟩
theorem v_Md_199_10 : ev_wV "PreferTableModel" 199 10 m_Md_reducedTerm := ⟨"PreferTableModel", _, _, rfl, cd_Md_reducedTerm, wd_1050, (ev_memS 32 (by decide +kernel)), Or.inl wd_1048⟩
theorem v_Md_202_10 : ev_wV "PreferTableModel" 202 10 m_Md_write := ⟨"PreferTableModel", _, _, rfl, cd_Md_write, wd_1058, (ev_memS 34 (by decide +kernel)), Or.inl wd_1056⟩
theorem v_Order_22_7 : ev_wV "PreferTable$Order" 22 7 m_Order_putOwn := ⟨"PreferTable$Layers", _, _, rfl, cd_Order_putOwn, wd_727, wd_730, Or.inl wd_726⟩
theorem v_Order_22_8 : ev_wV "PreferTable$Order" 22 8 m_Order_putOwn := ⟨"PreferTable$Graph", _, _, rfl, cd_Order_putOwn, wd_727, wd_729, Or.inl wd_726⟩
theorem v_PT_110_0 : ev_wV "PreferTable" 110 0 m_PT_newOrder := ⟨"PreferTable", _, _, rfl, cd_PT_newOrder, wd_472, (ev_memS 9 (by decide +kernel)), Or.inl wd_470⟩
theorem v_PT_114_0 : ev_wV "PreferTable" 114 0 m_PT_addNode := ⟨"PreferTable", _, _, rfl, cd_PT_addNode, wd_553, (ev_memS 10 (by decide +kernel)), Or.inl wd_551⟩
theorem v_PT_118_0 : ev_wV "PreferTable" 118 0 m_PT_isNode := ⟨"PreferTable", _, _, rfl, cd_PT_isNode, wd_203, (ev_memS 0 (by decide +kernel)), Or.inl wd_201⟩
theorem v_PT_133_0 : ev_wV "PreferTable" 133 0 m_PT_addEdge := ⟨"PreferTable", _, _, rfl, cd_PT_addEdge, wd_565, (ev_memS 11 (by decide +kernel)), Or.inl wd_563⟩
theorem v_PT_159_3 : ev_wV "PreferTable" 159 3 m_Conditions_add := ⟨"PreferTable$Conditions", _, _, rfl, cd_Conditions_add, wd_618, wd_619, Or.inl wd_617⟩
theorem v_PT_162_3 : ev_wV "PreferTable" 162 3 m_Conditions_clear := ⟨"PreferTable$Conditions", _, _, rfl, cd_Conditions_clear, wd_214, wd_215, Or.inl wd_213⟩
theorem v_PT_173_5 : ev_wV "PreferTable" 173 5 m_Contest_hold := ⟨"PreferTable$Contest", _, _, rfl, cd_Contest_hold, wd_245, wd_246, Or.inl wd_244⟩
theorem v_PT_177_5 : ev_wV "PreferTable" 177 5 m_Contest_listUnbeaten := ⟨"PreferTable$Contest", _, _, rfl, cd_Contest_listUnbeaten, wd_313, wd_314, Or.inl wd_312⟩
theorem v_PT_184_5 : ev_wV "PreferTable" 184 5 m_Contest_forgetOtherGroups := ⟨"PreferTable$Contest", _, _, rfl, cd_Contest_forgetOtherGroups, wd_647, wd_648, Or.inl wd_646⟩
theorem v_PT_190_5 : ev_wV "PreferTable" 190 5 m_Contest_rank := ⟨"PreferTable$Contest", _, _, rfl, cd_Contest_rank, wd_659, wd_660, Or.inl wd_658⟩
theorem v_PT_193_5 : ev_wV "PreferTable" 193 5 m_Contest_listFirst := ⟨"PreferTable$Contest", _, _, rfl, cd_Contest_listFirst, wd_671, wd_672, Or.inl wd_670⟩
theorem v_PT_200_2 : ev_wV "PreferTable" 200 2 m_RowList_pick := ⟨"PreferTable$RowList", _, _, rfl, cd_RowList_pick, wd_222, wd_223, Or.inl wd_221⟩
theorem v_PT_213_4 : ev_wV "PreferTable" 213 4 m_Question_ask := ⟨"PreferTable$Question", _, _, rfl, cd_Question_ask, wd_704, wd_705, Or.inl wd_703⟩
theorem v_PT_217_0 : ev_wV "PreferTable" 217 0 m_PT_markRead := ⟨"PreferTable", _, _, rfl, cd_PT_markRead, wd_330, (ev_memS 7 (by decide +kernel)), Or.inl wd_328⟩
theorem v_PT_224_0 : ev_wV "PreferTable" 224 0 m_PT_isSaved := ⟨"PreferTable", _, _, rfl, cd_PT_isSaved, wd_235, (ev_memS 1 (by decide +kernel)), Or.inl wd_233⟩
theorem v_PT_227_0 : ev_wV "PreferTable" 227 0 m_PT_keepUp := ⟨"PreferTable", _, _, rfl, cd_PT_keepUp, wd_242, (ev_memS 2 (by decide +kernel)), Or.inl wd_240⟩
theorem v_PT_255_8 : ev_wV "PreferTable" 255 8 m_Graph_leads := ⟨"PreferTable$Graph", _, _, rfl, cd_Graph_leads, wd_276, wd_277, Or.inl wd_567⟩
theorem v_PT_261_8 : ev_wV "PreferTable" 261 8 m_Graph_hasEdge := ⟨"PreferTable$Graph", _, _, rfl, cd_Graph_hasEdge, wd_570, wd_571, Or.inl wd_569⟩
theorem v_PT_264_8 : ev_wV "PreferTable" 264 8 m_Graph_join := ⟨"PreferTable$Graph", _, _, rfl, cd_Graph_join, wd_574, wd_575, Or.inl wd_573⟩
theorem v_PT_267_9 : ev_wV "PreferTable" 267 9 m_Term_partThatDecides := ⟨"PreferTable$Term", _, _, rfl, cd_Term_partThatDecides, wd_692, wd_693, Or.inl wd_691⟩
theorem v_PT_278_2 : ev_wV "PreferTable" 278 2 m_RowList_copyFrom := ⟨"PreferTable$RowList", _, _, rfl, cd_RowList_copyFrom, wd_333, wd_334, Or.inl wd_332⟩
theorem v_PT_67_1 : ev_wV "PreferTable" 67 1 m_Rows_isFull := ⟨"PreferTable$Rows", _, _, rfl, cd_Rows_isFull, wd_346, wd_347, Or.inl wd_345⟩
theorem v_PT_78_1 : ev_wV "PreferTable" 78 1 m_Rows_add := ⟨"PreferTable$Rows", _, _, rfl, cd_Rows_add, wd_418, wd_419, Or.inl wd_417⟩
theorem v_PT_82_1 : ev_wV "PreferTable" 82 1 m_Rows_placeOf := ⟨"PreferTable$Rows", _, _, rfl, cd_Rows_placeOf, wd_180, wd_181, Or.inl wd_179⟩
theorem v_PT_94_1 : ev_wV "PreferTable" 94 1 m_Rows_drop := ⟨"PreferTable$Rows", _, _, rfl, cd_Rows_drop, wd_191, wd_192, Or.inl wd_190⟩
theorem v_Question_36_3 : ev_wV "PreferTable$Question" 36 3 m_Conditions_copyFrom := ⟨"PreferTable$Conditions", _, _, rfl, cd_Conditions_copyFrom, wd_708, wd_709, Or.inl wd_707⟩
theorem v_RowList_25_2 : ev_wV "PreferTable$RowList" 25 2 m_RowList_has := ⟨"PreferTable$RowList", _, _, rfl, cd_RowList_has, wd_226, wd_227, Or.inl wd_225⟩
theorem v_Term_56_9 : ev_wV "PreferTable$Term" 56 9 m_Term_pDecidesAlone := ⟨"PreferTable$Term", _, _, rfl, cd_Term_pDecidesAlone, wd_752, (ev_memS 14 (by decide +kernel)), Or.inl wd_750⟩
theorem v_ValueOrder_21_6 : ev_wV "PreferTable$ValueOrder" 21 6 m_ValueOrder_distance := ⟨"PreferTable$ValueOrder", _, _, rfl, cd_ValueOrder_distance, wd_293, (ev_memS 5 (by decide +kernel)), Or.inl wd_291⟩
theorem oa_IAE_107 : ∀ w ∈ Bundle.ownAtoms "PreferTable" 107 "java/lang/IllegalArgumentException" ["java/lang/RuntimeException", "java/lang/Exception"], (w ∈ lw_tbl ∧ ev_gdb w = true) ∨ w ∈ ev_stat := by decide +kernel
theorem oa_IOB_102 : ∀ w ∈ Bundle.ownAtoms "PreferTable" 102 "java/lang/IndexOutOfBoundsException" ["java/lang/RuntimeException", "java/lang/Exception"], (w ∈ lw_tbl ∧ ev_gdb w = true) ∨ w ∈ ev_stat := by decide +kernel
theorem oa_ISE_75 : ∀ w ∈ Bundle.ownAtoms "PreferTable" 75 "java/lang/IllegalStateException" ["java/lang/RuntimeException", "java/lang/Exception"], (w ∈ lw_tbl ∧ ev_gdb w = true) ∨ w ∈ ev_stat := by decide +kernel
theorem th_PT_105_107 : ev_wT "PreferTable" 103 105 107 12 "java/lang/IllegalArgumentException" "no such order" ["java/lang/RuntimeException", "java/lang/Exception"] := ⟨oa_IAE_107, wd_453, wd_14, by decide +kernel, by decide +kernel, by decide +kernel, ⟨_, rfl⟩, by decide⟩
theorem th_PT_129_107 : ev_wT "PreferTable" 103 129 107 12 "java/lang/IllegalArgumentException" "no such node or value" ["java/lang/RuntimeException", "java/lang/Exception"] := ⟨oa_IAE_107, wd_453, wd_14, by decide +kernel, by decide +kernel, by decide +kernel, ⟨_, rfl⟩, by decide⟩
theorem th_PT_137_107 : ev_wT "PreferTable" 103 137 107 12 "java/lang/IllegalArgumentException" "the node has no edges" ["java/lang/RuntimeException", "java/lang/Exception"] := ⟨oa_IAE_107, wd_453, wd_14, by decide +kernel, by decide +kernel, by decide +kernel, ⟨_, rfl⟩, by decide⟩
theorem th_PT_139_107 : ev_wT "PreferTable" 103 139 107 12 "java/lang/IllegalArgumentException" "no such kind or node" ["java/lang/RuntimeException", "java/lang/Exception"] := ⟨oa_IAE_107, wd_453, wd_14, by decide +kernel, by decide +kernel, by decide +kernel, ⟨_, rfl⟩, by decide⟩
theorem th_PT_152_107 : ev_wT "PreferTable" 103 152 107 12 "java/lang/IllegalArgumentException" "no such column or operation" ["java/lang/RuntimeException", "java/lang/Exception"] := ⟨oa_IAE_107, wd_453, wd_14, by decide +kernel, by decide +kernel, by decide +kernel, ⟨_, rfl⟩, by decide⟩
theorem th_PT_188_107 : ev_wT "PreferTable" 103 188 107 12 "java/lang/IllegalArgumentException" "fewer than no rows" ["java/lang/RuntimeException", "java/lang/Exception"] := ⟨oa_IAE_107, wd_453, wd_14, by decide +kernel, by decide +kernel, by decide +kernel, ⟨_, rfl⟩, by decide⟩
theorem th_PT_108_75 : ev_wT "PreferTable" 71 108 75 11 "java/lang/IllegalStateException" "no room for another node" ["java/lang/RuntimeException", "java/lang/Exception"] := ⟨oa_ISE_75, wd_349, wd_11, by decide +kernel, by decide +kernel, by decide +kernel, ⟨_, rfl⟩, by decide⟩
theorem th_PT_147_75 : ev_wT "PreferTable" 71 147 75 11 "java/lang/IllegalStateException" "too many nodes, or too large a term" ["java/lang/RuntimeException", "java/lang/Exception"] := ⟨oa_ISE_75, wd_349, wd_11, by decide +kernel, by decide +kernel, by decide +kernel, ⟨_, rfl⟩, by decide⟩
theorem th_PT_157_75 : ev_wT "PreferTable" 71 157 75 11 "java/lang/IllegalStateException" "no room for another condition" ["java/lang/RuntimeException", "java/lang/Exception"] := ⟨oa_ISE_75, wd_349, wd_11, by decide +kernel, by decide +kernel, by decide +kernel, ⟨_, rfl⟩, by decide⟩
theorem th_PT_259_75 : ev_wT "PreferTable" 71 259 75 11 "java/lang/IllegalStateException" "a value would be better than itself" ["java/lang/RuntimeException", "java/lang/Exception"] := ⟨oa_ISE_75, wd_349, wd_11, by decide +kernel, by decide +kernel, by decide +kernel, ⟨_, rfl⟩, by decide⟩
theorem th_PT_73_75 : ev_wT "PreferTable" 71 73 75 11 "java/lang/IllegalStateException" "no room for another row" ["java/lang/RuntimeException", "java/lang/Exception"] := ⟨oa_ISE_75, wd_349, wd_11, by decide +kernel, by decide +kernel, by decide +kernel, ⟨_, rfl⟩, by decide⟩
theorem th_PT_100_102 : ev_wT "PreferTable" 98 100 102 13 "java/lang/IndexOutOfBoundsException" "no such row or column" ["java/lang/RuntimeException", "java/lang/Exception"] := ⟨oa_IOB_102, wd_429, wd_13, by decide +kernel, by decide +kernel, by decide +kernel, ⟨_, rfl⟩, by decide⟩
theorem th_PT_165_102 : ev_wT "PreferTable" 98 165 102 13 "java/lang/IndexOutOfBoundsException" "no such node or row" ["java/lang/RuntimeException", "java/lang/Exception"] := ⟨oa_IOB_102, wd_429, wd_13, by decide +kernel, by decide +kernel, by decide +kernel, ⟨_, rfl⟩, by decide⟩
theorem th_PT_171_102 : ev_wT "PreferTable" 98 171 102 13 "java/lang/IndexOutOfBoundsException" "no such node" ["java/lang/RuntimeException", "java/lang/Exception"] := ⟨oa_IOB_102, wd_429, wd_13, by decide +kernel, by decide +kernel, by decide +kernel, ⟨_, rfl⟩, by decide⟩
theorem th_PT_182_102 : ev_wT "PreferTable" 98 182 102 13 "java/lang/IndexOutOfBoundsException" "no such node or column" ["java/lang/RuntimeException", "java/lang/Exception"] := ⟨oa_IOB_102, wd_429, wd_13, by decide +kernel, by decide +kernel, by decide +kernel, ⟨_, rfl⟩, by decide⟩
theorem th_PT_211_102 : ev_wT "PreferTable" 98 211 102 13 "java/lang/IndexOutOfBoundsException" "no such question or node" ["java/lang/RuntimeException", "java/lang/Exception"] := ⟨oa_IOB_102, wd_429, wd_13, by decide +kernel, by decide +kernel, by decide +kernel, ⟨_, rfl⟩, by decide⟩
theorem th_PT_237_102 : ev_wT "PreferTable" 98 237 102 13 "java/lang/IndexOutOfBoundsException" "no such number in the form" ["java/lang/RuntimeException", "java/lang/Exception"] := ⟨oa_IOB_102, wd_429, wd_13, by decide +kernel, by decide +kernel, by decide +kernel, ⟨_, rfl⟩, by decide⟩
end
section
/-! Ev: a local is forgotten (written by gen_fg.py). -/
section EFG
variable {E : ev_E} {M : ev_M} {d pc : Nat} {r : List (Option Value)} {st : List Value} {h : ev_h} {sz k n : Nat} {Q : ev_Q}
theorem ev_fg_0 {v0 : Option Value} (kk : Ev E M d pc (none :: r) st h sz k n Q) : Ev E M d pc (v0 :: r) st h sz k n Q := by
  refine ev_less (fun j w hj => ?_) kk
  cases j with
  | zero => cases hj
  | succ j =>
  exact hj
theorem ev_fg_1 {v0 v1 : Option Value} (kk : Ev E M d pc (v0 :: none :: r) st h sz k n Q) : Ev E M d pc (v0 :: v1 :: r) st h sz k n Q := by
  refine ev_less (fun j w hj => ?_) kk
  cases j with
  | zero => exact hj
  | succ j =>
  cases j with
  | zero => cases hj
  | succ j =>
  exact hj
theorem ev_fg_2 {v0 v1 v2 : Option Value} (kk : Ev E M d pc (v0 :: v1 :: none :: r) st h sz k n Q) : Ev E M d pc (v0 :: v1 :: v2 :: r) st h sz k n Q := by
  refine ev_less (fun j w hj => ?_) kk
  cases j with
  | zero => exact hj
  | succ j =>
  cases j with
  | zero => exact hj
  | succ j =>
  cases j with
  | zero => cases hj
  | succ j =>
  exact hj
theorem ev_fg_3 {v0 v1 v2 v3 : Option Value} (kk : Ev E M d pc (v0 :: v1 :: v2 :: none :: r) st h sz k n Q) : Ev E M d pc (v0 :: v1 :: v2 :: v3 :: r) st h sz k n Q := by
  refine ev_less (fun j w hj => ?_) kk
  cases j with
  | zero => exact hj
  | succ j =>
  cases j with
  | zero => exact hj
  | succ j =>
  cases j with
  | zero => exact hj
  | succ j =>
  cases j with
  | zero => cases hj
  | succ j =>
  exact hj
theorem ev_fg_4 {v0 v1 v2 v3 v4 : Option Value} (kk : Ev E M d pc (v0 :: v1 :: v2 :: v3 :: none :: r) st h sz k n Q) : Ev E M d pc (v0 :: v1 :: v2 :: v3 :: v4 :: r) st h sz k n Q := by
  refine ev_less (fun j w hj => ?_) kk
  cases j with
  | zero => exact hj
  | succ j =>
  cases j with
  | zero => exact hj
  | succ j =>
  cases j with
  | zero => exact hj
  | succ j =>
  cases j with
  | zero => exact hj
  | succ j =>
  cases j with
  | zero => cases hj
  | succ j =>
  exact hj
theorem ev_fg_5 {v0 v1 v2 v3 v4 v5 : Option Value} (kk : Ev E M d pc (v0 :: v1 :: v2 :: v3 :: v4 :: none :: r) st h sz k n Q) : Ev E M d pc (v0 :: v1 :: v2 :: v3 :: v4 :: v5 :: r) st h sz k n Q := by
  refine ev_less (fun j w hj => ?_) kk
  cases j with
  | zero => exact hj
  | succ j =>
  cases j with
  | zero => exact hj
  | succ j =>
  cases j with
  | zero => exact hj
  | succ j =>
  cases j with
  | zero => exact hj
  | succ j =>
  cases j with
  | zero => exact hj
  | succ j =>
  cases j with
  | zero => cases hj
  | succ j =>
  exact hj
theorem ev_fg_6 {v0 v1 v2 v3 v4 v5 v6 : Option Value} (kk : Ev E M d pc (v0 :: v1 :: v2 :: v3 :: v4 :: v5 :: none :: r) st h sz k n Q) : Ev E M d pc (v0 :: v1 :: v2 :: v3 :: v4 :: v5 :: v6 :: r) st h sz k n Q := by
  refine ev_less (fun j w hj => ?_) kk
  cases j with
  | zero => exact hj
  | succ j =>
  cases j with
  | zero => exact hj
  | succ j =>
  cases j with
  | zero => exact hj
  | succ j =>
  cases j with
  | zero => exact hj
  | succ j =>
  cases j with
  | zero => exact hj
  | succ j =>
  cases j with
  | zero => exact hj
  | succ j =>
  cases j with
  | zero => cases hj
  | succ j =>
  exact hj
theorem ev_fg_7 {v0 v1 v2 v3 v4 v5 v6 v7 : Option Value} (kk : Ev E M d pc (v0 :: v1 :: v2 :: v3 :: v4 :: v5 :: v6 :: none :: r) st h sz k n Q) : Ev E M d pc (v0 :: v1 :: v2 :: v3 :: v4 :: v5 :: v6 :: v7 :: r) st h sz k n Q := by
  refine ev_less (fun j w hj => ?_) kk
  cases j with
  | zero => exact hj
  | succ j =>
  cases j with
  | zero => exact hj
  | succ j =>
  cases j with
  | zero => exact hj
  | succ j =>
  cases j with
  | zero => exact hj
  | succ j =>
  cases j with
  | zero => exact hj
  | succ j =>
  cases j with
  | zero => exact hj
  | succ j =>
  cases j with
  | zero => exact hj
  | succ j =>
  cases j with
  | zero => cases hj
  | succ j =>
  exact hj
theorem ev_fg_8 {v0 v1 v2 v3 v4 v5 v6 v7 v8 : Option Value} (kk : Ev E M d pc (v0 :: v1 :: v2 :: v3 :: v4 :: v5 :: v6 :: v7 :: none :: r) st h sz k n Q) : Ev E M d pc (v0 :: v1 :: v2 :: v3 :: v4 :: v5 :: v6 :: v7 :: v8 :: r) st h sz k n Q := by
  refine ev_less (fun j w hj => ?_) kk
  cases j with
  | zero => exact hj
  | succ j =>
  cases j with
  | zero => exact hj
  | succ j =>
  cases j with
  | zero => exact hj
  | succ j =>
  cases j with
  | zero => exact hj
  | succ j =>
  cases j with
  | zero => exact hj
  | succ j =>
  cases j with
  | zero => exact hj
  | succ j =>
  cases j with
  | zero => exact hj
  | succ j =>
  cases j with
  | zero => exact hj
  | succ j =>
  cases j with
  | zero => cases hj
  | succ j =>
  exact hj
theorem ev_fg_9 {v0 v1 v2 v3 v4 v5 v6 v7 v8 v9 : Option Value} (kk : Ev E M d pc (v0 :: v1 :: v2 :: v3 :: v4 :: v5 :: v6 :: v7 :: v8 :: none :: r) st h sz k n Q) : Ev E M d pc (v0 :: v1 :: v2 :: v3 :: v4 :: v5 :: v6 :: v7 :: v8 :: v9 :: r) st h sz k n Q := by
  refine ev_less (fun j w hj => ?_) kk
  cases j with
  | zero => exact hj
  | succ j =>
  cases j with
  | zero => exact hj
  | succ j =>
  cases j with
  | zero => exact hj
  | succ j =>
  cases j with
  | zero => exact hj
  | succ j =>
  cases j with
  | zero => exact hj
  | succ j =>
  cases j with
  | zero => exact hj
  | succ j =>
  cases j with
  | zero => exact hj
  | succ j =>
  cases j with
  | zero => exact hj
  | succ j =>
  cases j with
  | zero => exact hj
  | succ j =>
  cases j with
  | zero => cases hj
  | succ j =>
  exact hj
end EFG
end
section
/-! The reference's memory: scalars F (0 thrown, 1 rows, 2 nodes, 3 answers, 4 made, 5 forms), arrays A (by number). Written by gen_ref.py. -/
def rf_fs (m : Nat) (F : Nat → Nat) : List Value := [.int (nI (F 0)), .int (nI (F 1)), .ref (m + 1), .ref (m + 2), .int (nI (F 2)), .ref (m + 3), .ref (m + 4), .ref (m + 5), .ref (m + 6), .ref (m + 7), .ref (m + 8), .ref (m + 9), .ref (m + 10), .ref (m + 11), .ref (m + 12), .ref (m + 13), .ref (m + 14), .ref (m + 15), .ref (m + 16), .ref (m + 17), .ref (m + 18), .ref (m + 19), .int (nI (F 3)), .ref (m + 20), .int (nI (F 4)), .ref (m + 21), .ref (m + 22), .ref (m + 23), .ref (m + 24), .ref (m + 25), .ref (m + 26), .int (nI (F 5)), .ref (m + 27), .ref (m + 28)]
def rf_len (j : Nat) : Nat := [120, 480, 24, 24, 24, 24, 24, 240, 240, 24, 5, 20, 20, 20, 4, 4, 480, 120, 120, 24, 100, 100, 100, 100, 100, 24, 200, 100].getD j 0
def rf_bo (j : Nat) : Bool := j == 0 || j == 14 || j == 16 || j == 17
def rf_c (E : ev_E) (j : Nat) (f : Nat → Int32) : va_E := if rf_bo j = true then zA E (rf_len j) f else iA E (rf_len j) f
def Rf (E : ev_E) (m : Nat) (F : Nat → Nat) (A : Nat → Nat → Int32) (h : ev_h) : Prop := h m = some (oB 10 (rf_fs m F)) ∧ ∀ j, j < 28 → h (m + 1 + j) = some (rf_c E j (A j))
section RFS
variable {E : ev_E} {m : Nat} {F : Nat → Nat} {A : Nat → Nat → Int32} {h : ev_h}
theorem Rf.a0 (hM : Rf E m F A h) : h (m + 1) = some (zA E 120 (A 0)) := hM.2 0 (by decide)
theorem Rf.a1 (hM : Rf E m F A h) : h (m + 2) = some (iA E 480 (A 1)) := hM.2 1 (by decide)
theorem Rf.a2 (hM : Rf E m F A h) : h (m + 3) = some (iA E 24 (A 2)) := hM.2 2 (by decide)
theorem Rf.a3 (hM : Rf E m F A h) : h (m + 4) = some (iA E 24 (A 3)) := hM.2 3 (by decide)
theorem Rf.a4 (hM : Rf E m F A h) : h (m + 5) = some (iA E 24 (A 4)) := hM.2 4 (by decide)
theorem Rf.a5 (hM : Rf E m F A h) : h (m + 6) = some (iA E 24 (A 5)) := hM.2 5 (by decide)
theorem Rf.a6 (hM : Rf E m F A h) : h (m + 7) = some (iA E 24 (A 6)) := hM.2 6 (by decide)
theorem Rf.a7 (hM : Rf E m F A h) : h (m + 8) = some (iA E 240 (A 7)) := hM.2 7 (by decide)
theorem Rf.a8 (hM : Rf E m F A h) : h (m + 9) = some (iA E 240 (A 8)) := hM.2 8 (by decide)
theorem Rf.a9 (hM : Rf E m F A h) : h (m + 10) = some (iA E 24 (A 9)) := hM.2 9 (by decide)
theorem Rf.a10 (hM : Rf E m F A h) : h (m + 11) = some (iA E 5 (A 10)) := hM.2 10 (by decide)
theorem Rf.a11 (hM : Rf E m F A h) : h (m + 12) = some (iA E 20 (A 11)) := hM.2 11 (by decide)
theorem Rf.a12 (hM : Rf E m F A h) : h (m + 13) = some (iA E 20 (A 12)) := hM.2 12 (by decide)
theorem Rf.a13 (hM : Rf E m F A h) : h (m + 14) = some (iA E 20 (A 13)) := hM.2 13 (by decide)
theorem Rf.a14 (hM : Rf E m F A h) : h (m + 15) = some (zA E 4 (A 14)) := hM.2 14 (by decide)
theorem Rf.a15 (hM : Rf E m F A h) : h (m + 16) = some (iA E 4 (A 15)) := hM.2 15 (by decide)
theorem Rf.a16 (hM : Rf E m F A h) : h (m + 17) = some (zA E 480 (A 16)) := hM.2 16 (by decide)
theorem Rf.a17 (hM : Rf E m F A h) : h (m + 18) = some (zA E 120 (A 17)) := hM.2 17 (by decide)
theorem Rf.a18 (hM : Rf E m F A h) : h (m + 19) = some (iA E 120 (A 18)) := hM.2 18 (by decide)
theorem Rf.a19 (hM : Rf E m F A h) : h (m + 20) = some (iA E 24 (A 19)) := hM.2 19 (by decide)
theorem Rf.a20 (hM : Rf E m F A h) : h (m + 21) = some (iA E 100 (A 20)) := hM.2 20 (by decide)
theorem Rf.a21 (hM : Rf E m F A h) : h (m + 22) = some (iA E 100 (A 21)) := hM.2 21 (by decide)
theorem Rf.a22 (hM : Rf E m F A h) : h (m + 23) = some (iA E 100 (A 22)) := hM.2 22 (by decide)
theorem Rf.a23 (hM : Rf E m F A h) : h (m + 24) = some (iA E 100 (A 23)) := hM.2 23 (by decide)
theorem Rf.a24 (hM : Rf E m F A h) : h (m + 25) = some (iA E 100 (A 24)) := hM.2 24 (by decide)
theorem Rf.a25 (hM : Rf E m F A h) : h (m + 26) = some (iA E 24 (A 25)) := hM.2 25 (by decide)
theorem Rf.a26 (hM : Rf E m F A h) : h (m + 27) = some (iA E 200 (A 26)) := hM.2 26 (by decide)
theorem Rf.a27 (hM : Rf E m F A h) : h (m + 28) = some (iA E 100 (A 27)) := hM.2 27 (by decide)
/-- one scalar -/
def uF (F : Nat → Nat) (i y : Nat) : Nat → Nat := fun j => if j = i then y else F j
theorem uF_s {F : Nat → Nat} {i y : Nat} : uF F i y i = y := if_pos rfl
theorem uF_n {F : Nat → Nat} {i j y : Nat} (h : j ≠ i) : uF F i y j = F j := if_neg h
/-- one element of one array -/
def uA (A : Nat → Nat → Int32) (j i : Nat) (x : Int32) : Nat → Nat → Int32 := fun a => if a = j then upd (A j) i x else A a
theorem uA_u {A : Nat → Nat → Int32} {j i : Nat} {x : Int32} : uA A j i x j = upd (A j) i x := if_pos rfl
theorem uA_a {A : Nat → Nat → Int32} {j i a : Nat} {x : Int32} (h : a ≠ j) : uA A j i x a = A a := if_neg h
/-- nothing outside the reference has changed -/
def fR (m : Nat) (h h' : ev_h) : Prop := ∀ q, q < m ∨ m + 29 ≤ q → h' q = h q
theorem fR.rf {m : Nat} {h : ev_h} : fR m h h := fun _ _ => rfl
theorem fR.tr {m : Nat} {h h1 h2 : ev_h} (a : fR m h h1) (b : fR m h1 h2) : fR m h h2 := fun q hq => (b q hq).trans (a q hq)
theorem Rf.putA (hM : Rf E m F A h) {j i : Nat} (hj : j < 28) (x : Int32) : Rf E m F (uA A j i x) (ev_up h (m + 1 + j) (rf_c E j (upd (A j) i x))) ∧ fR m h (ev_up h (m + 1 + j) (rf_c E j (upd (A j) i x))) := by
  refine ⟨⟨(ev_up_n (by omega)).trans hM.1, fun a ha => ?_⟩, fun q hq => ev_up_n (by omega)⟩
  by_cases e : a = j
  · subst e; rw [ev_up_s, uA_u]
  · rw [ev_up_n (by omega), uA_a e]; exact hM.2 a ha
theorem Rf.putF (hM : Rf E m F A h) (i y : Nat) : Rf E m (uF F i y) A (ev_up h m (oB 10 (rf_fs m (uF F i y)))) ∧ fR m h (ev_up h m (oB 10 (rf_fs m (uF F i y)))) :=
  ⟨⟨ev_up_s, fun a ha => (ev_up_n (by omega)).trans (hM.2 a ha)⟩, fun q hq => ev_up_n (by omega)⟩
theorem Rf.kept {h' : ev_h} (hM : Rf E m F A h) (hq : ∀ q, m ≤ q → q < m + 29 → h' q = h q) : Rf E m F A h' :=
  ⟨(hq m (by omega) (by omega)).trans hM.1, fun j hj => (hq (m + 1 + j) (by omega) (by omega)).trans (hM.2 j hj)⟩
end RFS
section RFE
variable {E : ev_E} {M : ev_M} {d pc pc' : Nat} {ls : List (Option Value)} {st : List Value} {h : ev_h} {sz k n : Nat} {Q : ev_Q} {m : Nat} {F : Nat → Nat} {A : Nat → Nat → Int32}
theorem rf_st0 {i : Nat} {x : Int32} (hd : ev_d M pc .bastore 1 pc') (hM : Rf E m F A h) (hi : i < 120) (hx : narrow .boolean (.int x) = .int x) (kk : ∀ h', Rf E m F (uA A 0 i x) h' → fR m h h' → Ev E M d pc' ls st h' sz k n Q) : Ev E M d pc ls (.int x :: .int (nI i) :: .ref (m + 1) :: st) h sz k n Q :=
  ev_zast hd hM.a0 hi (by decide) hx (kk _ (hM.putA (j := 0) (by decide) x).1 (hM.putA (j := 0) (by decide) x).2)
theorem rf_st1 {i : Nat} {x : Int32} (hd : ev_d M pc .iastore 1 pc') (hM : Rf E m F A h) (hi : i < 480) (kk : ∀ h', Rf E m F (uA A 1 i x) h' → fR m h h' → Ev E M d pc' ls st h' sz k n Q) : Ev E M d pc ls (.int x :: .int (nI i) :: .ref (m + 2) :: st) h sz k n Q :=
  ev_iast hd hM.a1 hi (by decide) (kk _ (hM.putA (j := 1) (by decide) x).1 (hM.putA (j := 1) (by decide) x).2)
theorem rf_st2 {i : Nat} {x : Int32} (hd : ev_d M pc .iastore 1 pc') (hM : Rf E m F A h) (hi : i < 24) (kk : ∀ h', Rf E m F (uA A 2 i x) h' → fR m h h' → Ev E M d pc' ls st h' sz k n Q) : Ev E M d pc ls (.int x :: .int (nI i) :: .ref (m + 3) :: st) h sz k n Q :=
  ev_iast hd hM.a2 hi (by decide) (kk _ (hM.putA (j := 2) (by decide) x).1 (hM.putA (j := 2) (by decide) x).2)
theorem rf_st3 {i : Nat} {x : Int32} (hd : ev_d M pc .iastore 1 pc') (hM : Rf E m F A h) (hi : i < 24) (kk : ∀ h', Rf E m F (uA A 3 i x) h' → fR m h h' → Ev E M d pc' ls st h' sz k n Q) : Ev E M d pc ls (.int x :: .int (nI i) :: .ref (m + 4) :: st) h sz k n Q :=
  ev_iast hd hM.a3 hi (by decide) (kk _ (hM.putA (j := 3) (by decide) x).1 (hM.putA (j := 3) (by decide) x).2)
theorem rf_st4 {i : Nat} {x : Int32} (hd : ev_d M pc .iastore 1 pc') (hM : Rf E m F A h) (hi : i < 24) (kk : ∀ h', Rf E m F (uA A 4 i x) h' → fR m h h' → Ev E M d pc' ls st h' sz k n Q) : Ev E M d pc ls (.int x :: .int (nI i) :: .ref (m + 5) :: st) h sz k n Q :=
  ev_iast hd hM.a4 hi (by decide) (kk _ (hM.putA (j := 4) (by decide) x).1 (hM.putA (j := 4) (by decide) x).2)
theorem rf_st5 {i : Nat} {x : Int32} (hd : ev_d M pc .iastore 1 pc') (hM : Rf E m F A h) (hi : i < 24) (kk : ∀ h', Rf E m F (uA A 5 i x) h' → fR m h h' → Ev E M d pc' ls st h' sz k n Q) : Ev E M d pc ls (.int x :: .int (nI i) :: .ref (m + 6) :: st) h sz k n Q :=
  ev_iast hd hM.a5 hi (by decide) (kk _ (hM.putA (j := 5) (by decide) x).1 (hM.putA (j := 5) (by decide) x).2)
theorem rf_st6 {i : Nat} {x : Int32} (hd : ev_d M pc .iastore 1 pc') (hM : Rf E m F A h) (hi : i < 24) (kk : ∀ h', Rf E m F (uA A 6 i x) h' → fR m h h' → Ev E M d pc' ls st h' sz k n Q) : Ev E M d pc ls (.int x :: .int (nI i) :: .ref (m + 7) :: st) h sz k n Q :=
  ev_iast hd hM.a6 hi (by decide) (kk _ (hM.putA (j := 6) (by decide) x).1 (hM.putA (j := 6) (by decide) x).2)
theorem rf_st7 {i : Nat} {x : Int32} (hd : ev_d M pc .iastore 1 pc') (hM : Rf E m F A h) (hi : i < 240) (kk : ∀ h', Rf E m F (uA A 7 i x) h' → fR m h h' → Ev E M d pc' ls st h' sz k n Q) : Ev E M d pc ls (.int x :: .int (nI i) :: .ref (m + 8) :: st) h sz k n Q :=
  ev_iast hd hM.a7 hi (by decide) (kk _ (hM.putA (j := 7) (by decide) x).1 (hM.putA (j := 7) (by decide) x).2)
theorem rf_st8 {i : Nat} {x : Int32} (hd : ev_d M pc .iastore 1 pc') (hM : Rf E m F A h) (hi : i < 240) (kk : ∀ h', Rf E m F (uA A 8 i x) h' → fR m h h' → Ev E M d pc' ls st h' sz k n Q) : Ev E M d pc ls (.int x :: .int (nI i) :: .ref (m + 9) :: st) h sz k n Q :=
  ev_iast hd hM.a8 hi (by decide) (kk _ (hM.putA (j := 8) (by decide) x).1 (hM.putA (j := 8) (by decide) x).2)
theorem rf_st9 {i : Nat} {x : Int32} (hd : ev_d M pc .iastore 1 pc') (hM : Rf E m F A h) (hi : i < 24) (kk : ∀ h', Rf E m F (uA A 9 i x) h' → fR m h h' → Ev E M d pc' ls st h' sz k n Q) : Ev E M d pc ls (.int x :: .int (nI i) :: .ref (m + 10) :: st) h sz k n Q :=
  ev_iast hd hM.a9 hi (by decide) (kk _ (hM.putA (j := 9) (by decide) x).1 (hM.putA (j := 9) (by decide) x).2)
theorem rf_st10 {i : Nat} {x : Int32} (hd : ev_d M pc .iastore 1 pc') (hM : Rf E m F A h) (hi : i < 5) (kk : ∀ h', Rf E m F (uA A 10 i x) h' → fR m h h' → Ev E M d pc' ls st h' sz k n Q) : Ev E M d pc ls (.int x :: .int (nI i) :: .ref (m + 11) :: st) h sz k n Q :=
  ev_iast hd hM.a10 hi (by decide) (kk _ (hM.putA (j := 10) (by decide) x).1 (hM.putA (j := 10) (by decide) x).2)
theorem rf_st11 {i : Nat} {x : Int32} (hd : ev_d M pc .iastore 1 pc') (hM : Rf E m F A h) (hi : i < 20) (kk : ∀ h', Rf E m F (uA A 11 i x) h' → fR m h h' → Ev E M d pc' ls st h' sz k n Q) : Ev E M d pc ls (.int x :: .int (nI i) :: .ref (m + 12) :: st) h sz k n Q :=
  ev_iast hd hM.a11 hi (by decide) (kk _ (hM.putA (j := 11) (by decide) x).1 (hM.putA (j := 11) (by decide) x).2)
theorem rf_st12 {i : Nat} {x : Int32} (hd : ev_d M pc .iastore 1 pc') (hM : Rf E m F A h) (hi : i < 20) (kk : ∀ h', Rf E m F (uA A 12 i x) h' → fR m h h' → Ev E M d pc' ls st h' sz k n Q) : Ev E M d pc ls (.int x :: .int (nI i) :: .ref (m + 13) :: st) h sz k n Q :=
  ev_iast hd hM.a12 hi (by decide) (kk _ (hM.putA (j := 12) (by decide) x).1 (hM.putA (j := 12) (by decide) x).2)
theorem rf_st13 {i : Nat} {x : Int32} (hd : ev_d M pc .iastore 1 pc') (hM : Rf E m F A h) (hi : i < 20) (kk : ∀ h', Rf E m F (uA A 13 i x) h' → fR m h h' → Ev E M d pc' ls st h' sz k n Q) : Ev E M d pc ls (.int x :: .int (nI i) :: .ref (m + 14) :: st) h sz k n Q :=
  ev_iast hd hM.a13 hi (by decide) (kk _ (hM.putA (j := 13) (by decide) x).1 (hM.putA (j := 13) (by decide) x).2)
theorem rf_st14 {i : Nat} {x : Int32} (hd : ev_d M pc .bastore 1 pc') (hM : Rf E m F A h) (hi : i < 4) (hx : narrow .boolean (.int x) = .int x) (kk : ∀ h', Rf E m F (uA A 14 i x) h' → fR m h h' → Ev E M d pc' ls st h' sz k n Q) : Ev E M d pc ls (.int x :: .int (nI i) :: .ref (m + 15) :: st) h sz k n Q :=
  ev_zast hd hM.a14 hi (by decide) hx (kk _ (hM.putA (j := 14) (by decide) x).1 (hM.putA (j := 14) (by decide) x).2)
theorem rf_st15 {i : Nat} {x : Int32} (hd : ev_d M pc .iastore 1 pc') (hM : Rf E m F A h) (hi : i < 4) (kk : ∀ h', Rf E m F (uA A 15 i x) h' → fR m h h' → Ev E M d pc' ls st h' sz k n Q) : Ev E M d pc ls (.int x :: .int (nI i) :: .ref (m + 16) :: st) h sz k n Q :=
  ev_iast hd hM.a15 hi (by decide) (kk _ (hM.putA (j := 15) (by decide) x).1 (hM.putA (j := 15) (by decide) x).2)
theorem rf_st16 {i : Nat} {x : Int32} (hd : ev_d M pc .bastore 1 pc') (hM : Rf E m F A h) (hi : i < 480) (hx : narrow .boolean (.int x) = .int x) (kk : ∀ h', Rf E m F (uA A 16 i x) h' → fR m h h' → Ev E M d pc' ls st h' sz k n Q) : Ev E M d pc ls (.int x :: .int (nI i) :: .ref (m + 17) :: st) h sz k n Q :=
  ev_zast hd hM.a16 hi (by decide) hx (kk _ (hM.putA (j := 16) (by decide) x).1 (hM.putA (j := 16) (by decide) x).2)
theorem rf_st17 {i : Nat} {x : Int32} (hd : ev_d M pc .bastore 1 pc') (hM : Rf E m F A h) (hi : i < 120) (hx : narrow .boolean (.int x) = .int x) (kk : ∀ h', Rf E m F (uA A 17 i x) h' → fR m h h' → Ev E M d pc' ls st h' sz k n Q) : Ev E M d pc ls (.int x :: .int (nI i) :: .ref (m + 18) :: st) h sz k n Q :=
  ev_zast hd hM.a17 hi (by decide) hx (kk _ (hM.putA (j := 17) (by decide) x).1 (hM.putA (j := 17) (by decide) x).2)
theorem rf_st18 {i : Nat} {x : Int32} (hd : ev_d M pc .iastore 1 pc') (hM : Rf E m F A h) (hi : i < 120) (kk : ∀ h', Rf E m F (uA A 18 i x) h' → fR m h h' → Ev E M d pc' ls st h' sz k n Q) : Ev E M d pc ls (.int x :: .int (nI i) :: .ref (m + 19) :: st) h sz k n Q :=
  ev_iast hd hM.a18 hi (by decide) (kk _ (hM.putA (j := 18) (by decide) x).1 (hM.putA (j := 18) (by decide) x).2)
theorem rf_st19 {i : Nat} {x : Int32} (hd : ev_d M pc .iastore 1 pc') (hM : Rf E m F A h) (hi : i < 24) (kk : ∀ h', Rf E m F (uA A 19 i x) h' → fR m h h' → Ev E M d pc' ls st h' sz k n Q) : Ev E M d pc ls (.int x :: .int (nI i) :: .ref (m + 20) :: st) h sz k n Q :=
  ev_iast hd hM.a19 hi (by decide) (kk _ (hM.putA (j := 19) (by decide) x).1 (hM.putA (j := 19) (by decide) x).2)
theorem rf_st20 {i : Nat} {x : Int32} (hd : ev_d M pc .iastore 1 pc') (hM : Rf E m F A h) (hi : i < 100) (kk : ∀ h', Rf E m F (uA A 20 i x) h' → fR m h h' → Ev E M d pc' ls st h' sz k n Q) : Ev E M d pc ls (.int x :: .int (nI i) :: .ref (m + 21) :: st) h sz k n Q :=
  ev_iast hd hM.a20 hi (by decide) (kk _ (hM.putA (j := 20) (by decide) x).1 (hM.putA (j := 20) (by decide) x).2)
theorem rf_st21 {i : Nat} {x : Int32} (hd : ev_d M pc .iastore 1 pc') (hM : Rf E m F A h) (hi : i < 100) (kk : ∀ h', Rf E m F (uA A 21 i x) h' → fR m h h' → Ev E M d pc' ls st h' sz k n Q) : Ev E M d pc ls (.int x :: .int (nI i) :: .ref (m + 22) :: st) h sz k n Q :=
  ev_iast hd hM.a21 hi (by decide) (kk _ (hM.putA (j := 21) (by decide) x).1 (hM.putA (j := 21) (by decide) x).2)
theorem rf_st22 {i : Nat} {x : Int32} (hd : ev_d M pc .iastore 1 pc') (hM : Rf E m F A h) (hi : i < 100) (kk : ∀ h', Rf E m F (uA A 22 i x) h' → fR m h h' → Ev E M d pc' ls st h' sz k n Q) : Ev E M d pc ls (.int x :: .int (nI i) :: .ref (m + 23) :: st) h sz k n Q :=
  ev_iast hd hM.a22 hi (by decide) (kk _ (hM.putA (j := 22) (by decide) x).1 (hM.putA (j := 22) (by decide) x).2)
theorem rf_st23 {i : Nat} {x : Int32} (hd : ev_d M pc .iastore 1 pc') (hM : Rf E m F A h) (hi : i < 100) (kk : ∀ h', Rf E m F (uA A 23 i x) h' → fR m h h' → Ev E M d pc' ls st h' sz k n Q) : Ev E M d pc ls (.int x :: .int (nI i) :: .ref (m + 24) :: st) h sz k n Q :=
  ev_iast hd hM.a23 hi (by decide) (kk _ (hM.putA (j := 23) (by decide) x).1 (hM.putA (j := 23) (by decide) x).2)
theorem rf_st24 {i : Nat} {x : Int32} (hd : ev_d M pc .iastore 1 pc') (hM : Rf E m F A h) (hi : i < 100) (kk : ∀ h', Rf E m F (uA A 24 i x) h' → fR m h h' → Ev E M d pc' ls st h' sz k n Q) : Ev E M d pc ls (.int x :: .int (nI i) :: .ref (m + 25) :: st) h sz k n Q :=
  ev_iast hd hM.a24 hi (by decide) (kk _ (hM.putA (j := 24) (by decide) x).1 (hM.putA (j := 24) (by decide) x).2)
theorem rf_st25 {i : Nat} {x : Int32} (hd : ev_d M pc .iastore 1 pc') (hM : Rf E m F A h) (hi : i < 24) (kk : ∀ h', Rf E m F (uA A 25 i x) h' → fR m h h' → Ev E M d pc' ls st h' sz k n Q) : Ev E M d pc ls (.int x :: .int (nI i) :: .ref (m + 26) :: st) h sz k n Q :=
  ev_iast hd hM.a25 hi (by decide) (kk _ (hM.putA (j := 25) (by decide) x).1 (hM.putA (j := 25) (by decide) x).2)
theorem rf_st26 {i : Nat} {x : Int32} (hd : ev_d M pc .iastore 1 pc') (hM : Rf E m F A h) (hi : i < 200) (kk : ∀ h', Rf E m F (uA A 26 i x) h' → fR m h h' → Ev E M d pc' ls st h' sz k n Q) : Ev E M d pc ls (.int x :: .int (nI i) :: .ref (m + 27) :: st) h sz k n Q :=
  ev_iast hd hM.a26 hi (by decide) (kk _ (hM.putA (j := 26) (by decide) x).1 (hM.putA (j := 26) (by decide) x).2)
theorem rf_st27 {i : Nat} {x : Int32} (hd : ev_d M pc .iastore 1 pc') (hM : Rf E m F A h) (hi : i < 100) (kk : ∀ h', Rf E m F (uA A 27 i x) h' → fR m h h' → Ev E M d pc' ls st h' sz k n Q) : Ev E M d pc ls (.int x :: .int (nI i) :: .ref (m + 28) :: st) h sz k n Q :=
  ev_iast hd hM.a27 hi (by decide) (kk _ (hM.putA (j := 27) (by decide) x).1 (hM.putA (j := 27) (by decide) x).2)
theorem rf_pt0 {y : Nat} (hd : ev_d M pc (.putfield 95) 3 pc') (ho : M.1.cls = "PreferTableModel") (hM : Rf E m F A h) (kk : ∀ h', Rf E m (uF F 0 y) A h' → fR m h h' → Ev E M d pc' ls st h' sz k n Q) : Ev E M d pc ls (.int (nI y) :: .ref m :: st) h sz k n Q :=
  ev_put (rf_fs m (uF F 0 y)) hd (by rw [ho]; exact p_Md_95_10) hM.1 rfl rfl rfl rfl (kk _ (hM.putF 0 y).1 (hM.putF 0 y).2)
theorem rf_pt1 {y : Nat} (hd : ev_d M pc (.putfield 99) 3 pc') (ho : M.1.cls = "PreferTableModel") (hM : Rf E m F A h) (kk : ∀ h', Rf E m (uF F 1 y) A h' → fR m h h' → Ev E M d pc' ls st h' sz k n Q) : Ev E M d pc ls (.int (nI y) :: .ref m :: st) h sz k n Q :=
  ev_put (rf_fs m (uF F 1 y)) hd (by rw [ho]; exact p_Md_99_10) hM.1 rfl rfl rfl rfl (kk _ (hM.putF 1 y).1 (hM.putF 1 y).2)
theorem rf_pt2 {y : Nat} (hd : ev_d M pc (.putfield 102) 3 pc') (ho : M.1.cls = "PreferTableModel") (hM : Rf E m F A h) (kk : ∀ h', Rf E m (uF F 2 y) A h' → fR m h h' → Ev E M d pc' ls st h' sz k n Q) : Ev E M d pc ls (.int (nI y) :: .ref m :: st) h sz k n Q :=
  ev_put (rf_fs m (uF F 2 y)) hd (by rw [ho]; exact p_Md_102_10) hM.1 rfl rfl rfl rfl (kk _ (hM.putF 2 y).1 (hM.putF 2 y).2)
theorem rf_pt3 {y : Nat} (hd : ev_d M pc (.putfield 163) 3 pc') (ho : M.1.cls = "PreferTableModel") (hM : Rf E m F A h) (kk : ∀ h', Rf E m (uF F 3 y) A h' → fR m h h' → Ev E M d pc' ls st h' sz k n Q) : Ev E M d pc ls (.int (nI y) :: .ref m :: st) h sz k n Q :=
  ev_put (rf_fs m (uF F 3 y)) hd (by rw [ho]; exact p_Md_163_10) hM.1 rfl rfl rfl rfl (kk _ (hM.putF 3 y).1 (hM.putF 3 y).2)
theorem rf_pt4 {y : Nat} (hd : ev_d M pc (.putfield 180) 3 pc') (ho : M.1.cls = "PreferTableModel") (hM : Rf E m F A h) (kk : ∀ h', Rf E m (uF F 4 y) A h' → fR m h h' → Ev E M d pc' ls st h' sz k n Q) : Ev E M d pc ls (.int (nI y) :: .ref m :: st) h sz k n Q :=
  ev_put (rf_fs m (uF F 4 y)) hd (by rw [ho]; exact p_Md_180_10) hM.1 rfl rfl rfl rfl (kk _ (hM.putF 4 y).1 (hM.putF 4 y).2)
theorem rf_pt5 {y : Nat} (hd : ev_d M pc (.putfield 190) 3 pc') (ho : M.1.cls = "PreferTableModel") (hM : Rf E m F A h) (kk : ∀ h', Rf E m (uF F 5 y) A h' → fR m h h' → Ev E M d pc' ls st h' sz k n Q) : Ev E M d pc ls (.int (nI y) :: .ref m :: st) h sz k n Q :=
  ev_put (rf_fs m (uF F 5 y)) hd (by rw [ho]; exact p_Md_190_10) hM.1 rfl rfl rfl rfl (kk _ (hM.putF 5 y).1 (hM.putF 5 y).2)
end RFE
end
section
/-! The class's small parts: lists of rows, conditions, tests of numbers (written by gen_c1.py over walk.py). -/
theorem z10 : ¬ nI 1 = 0 := by decide +kernel
theorem z00 : nI 0 = 0 := nI_0
theorem ti_4 : (nI 4).toInt = 4 := by decide +kernel
theorem ti_6 : (nI 6).toInt = 6 := by decide +kernel
theorem ti_10 : (nI 10).toInt = 10 := by decide +kernel
theorem ti_24 : (nI 24).toInt = 24 := by decide +kernel
theorem ti_40 : (nI 40).toInt = 40 := by decide +kernel
theorem ti_120 : (nI 120).toInt = 120 := by decide +kernel
theorem ti_m1 : (-1 : Int32).toInt = -1 := by decide +kernel
/-- a number within, by its bounds -/
theorem nI_bd {x : Int32} {c : Nat} (hc : c < 65536) (h0 : ¬ x < 0) (h1 : ¬ nI c ≤ x) : ∃ j, j < c ∧ x = nI j := by
  obtain ⟨j, hj, rfl⟩ := nI_of h0
  refine ⟨j, ?_, rfl⟩
  rw [nI_leI (by omega) hj] at h1
  omega
theorem nI_nb {x : Int32} {c : Nat} (hc : c < 65536) (h : x < 0 ∨ nI c ≤ x) : ∀ j, j < c → x ≠ nI j := by
  rintro j hj rfl
  rcases h with h | h
  · exact nI_pos (by omega) h
  · rw [nI_leI (by omega) (by omega)] at h
    omega
section C1
variable {E : ev_E} {d : Nat} {h : ev_h} {sz k n : Nat} {Q : ev_Q}
theorem t_PT_isColumn {x : Int32} (kt : (∃ j, j < 4 ∧ x = nI j) → Q (.returned (some (.int (nI 1)))) h sz k n) (kf : (∀ j, j < 4 → x ≠ nI j) → Q (.returned (some (.int (nI 0)))) h sz k n) : Ev E m_PT_isColumn d 0 [some (.int x)] [] h sz k n Q := by
  refine ev_iload_0 (ev_dt dt_PT_isColumn_0 0 rfl) ?_
  refine ev_if_lt (tgt := 13) (ev_dt dt_PT_isColumn_0 1 rfl) (by decide) (fun h1 => ?_) (fun h1 => ?_)
  · refine ev_ic0 (ev_dt dt_PT_isColumn_0 7 rfl) ?_
    exact ev_ireturn (ev_dt dt_PT_isColumn_0 8 rfl) rfl bz0 (kf (nI_nb (by decide) (Or.inl h1)))
  · refine ev_iload_0 (ev_dt dt_PT_isColumn_0 2 rfl) ?_
    refine ev_ic4 (ev_dt dt_PT_isColumn_0 3 rfl) ?_
    refine ev_icmp_ge (tgt := 13) (ev_dt dt_PT_isColumn_0 4 rfl) (by decide) (fun h2 => ?_) (fun h2 => ?_)
    · refine ev_ic0 (ev_dt dt_PT_isColumn_0 7 rfl) ?_
      exact ev_ireturn (ev_dt dt_PT_isColumn_0 8 rfl) rfl bz0 (kf (nI_nb (by decide) (Or.inr h2)))
    · refine ev_ic1 (ev_dt dt_PT_isColumn_0 5 rfl) ?_
      refine ev_goto (tgt := 14) (ev_dt dt_PT_isColumn_0 6 rfl) (by decide) ?_
      exact ev_ireturn (ev_dt dt_PT_isColumn_0 8 rfl) rfl bz1 (kt (nI_bd (by decide) h1 h2))
theorem t_PT_isGraded {x : Int32} (kt : (∃ j, j < 10 ∧ x = nI j) → Q (.returned (some (.int (nI 1)))) h sz k n) (kf : (∀ j, j < 10 → x ≠ nI j) → Q (.returned (some (.int (nI 0)))) h sz k n) : Ev E m_PT_isGraded d 0 [some (.int x)] [] h sz k n Q := by
  refine ev_iload_0 (ev_dt dt_PT_isGraded_0 0 rfl) ?_
  refine ev_if_lt (tgt := 14) (ev_dt dt_PT_isGraded_0 1 rfl) (by decide) (fun h1 => ?_) (fun h1 => ?_)
  · refine ev_ic0 (ev_dt dt_PT_isGraded_0 7 rfl) ?_
    exact ev_ireturn (ev_dt dt_PT_isGraded_0 8 rfl) rfl bz0 (kf (nI_nb (by decide) (Or.inl h1)))
  · refine ev_iload_0 (ev_dt dt_PT_isGraded_0 2 rfl) ?_
    refine ev_bipush (ev_dt dt_PT_isGraded_0 3 rfl) bi_10 ?_
    refine ev_icmp_ge (tgt := 14) (ev_dt dt_PT_isGraded_0 4 rfl) (by decide) (fun h2 => ?_) (fun h2 => ?_)
    · refine ev_ic0 (ev_dt dt_PT_isGraded_0 7 rfl) ?_
      exact ev_ireturn (ev_dt dt_PT_isGraded_0 8 rfl) rfl bz0 (kf (nI_nb (by decide) (Or.inr h2)))
    · refine ev_ic1 (ev_dt dt_PT_isGraded_0 5 rfl) ?_
      refine ev_goto (tgt := 15) (ev_dt dt_PT_isGraded_0 6 rfl) (by decide) ?_
      exact ev_ireturn (ev_dt dt_PT_isGraded_0 8 rfl) rfl bz1 (kt (nI_bd (by decide) h1 h2))
theorem t_PT_isQuestion {x : Int32} (kt : (∃ j, j < 4 ∧ x = nI j) → Q (.returned (some (.int (nI 1)))) h sz k n) (kf : (∀ j, j < 4 → x ≠ nI j) → Q (.returned (some (.int (nI 0)))) h sz k n) : Ev E m_PT_isQuestion d 0 [some (.int x)] [] h sz k n Q := by
  refine ev_iload_0 (ev_dt dt_PT_isQuestion_0 0 rfl) ?_
  refine ev_if_lt (tgt := 13) (ev_dt dt_PT_isQuestion_0 1 rfl) (by decide) (fun h1 => ?_) (fun h1 => ?_)
  · refine ev_ic0 (ev_dt dt_PT_isQuestion_0 7 rfl) ?_
    exact ev_ireturn (ev_dt dt_PT_isQuestion_0 8 rfl) rfl bz0 (kf (nI_nb (by decide) (Or.inl h1)))
  · refine ev_iload_0 (ev_dt dt_PT_isQuestion_0 2 rfl) ?_
    refine ev_ic4 (ev_dt dt_PT_isQuestion_0 3 rfl) ?_
    refine ev_icmp_ge (tgt := 13) (ev_dt dt_PT_isQuestion_0 4 rfl) (by decide) (fun h2 => ?_) (fun h2 => ?_)
    · refine ev_ic0 (ev_dt dt_PT_isQuestion_0 7 rfl) ?_
      exact ev_ireturn (ev_dt dt_PT_isQuestion_0 8 rfl) rfl bz0 (kf (nI_nb (by decide) (Or.inr h2)))
    · refine ev_ic1 (ev_dt dt_PT_isQuestion_0 5 rfl) ?_
      refine ev_goto (tgt := 14) (ev_dt dt_PT_isQuestion_0 6 rfl) (by decide) ?_
      exact ev_ireturn (ev_dt dt_PT_isQuestion_0 8 rfl) rfl bz1 (kt (nI_bd (by decide) h1 h2))
/-- a list of rows at a: c numbers f -/
def LsAt (E : ev_E) (a c : Nat) (f : Nat → Int32) (h : ev_h) : Prop := h a = some (oB 2 [.ref (a + 1), .int (nI c)]) ∧ h (a + 1) = some (iA E 24 f)
theorem LsAt.kept {E : ev_E} {a c : Nat} {f : Nat → Int32} {h h' : ev_h} (hL : LsAt E a c f h) (hq : ∀ q, a ≤ q → q < a + 2 → h' q = h q) : LsAt E a c f h' := ⟨(hq a (by omega) (by omega)).trans hL.1, (hq (a + 1) (by omega) (by omega)).trans hL.2⟩
theorem t_RowList_clear {a c : Nat} {f : Nat → Int32} (hL : LsAt E a c f h) (kk : Q (.returned none) (ev_up h a (oB 2 [.ref (a + 1), .int (nI 0)])) sz k n) : Ev E m_RowList_clear d 0 [some (.ref a)] [] h sz k n Q := by
  refine ev_aload_0 (ev_dt dt_RowList_clear_0 0 rfl) ?_
  refine ev_ic0 (ev_dt dt_RowList_clear_0 1 rfl) ?_
  refine ev_put [.ref (a + 1), .int (nI 0)] (ev_dt dt_RowList_clear_0 2 rfl) p_RowList_15_2 hL.1 rfl rfl rfl rfl ?_
  exact ev_return (ev_dt dt_RowList_clear_0 3 rfl) rfl kk
theorem t_RowList_add {a c : Nat} {x : Int32} {f : Nat → Int32} (hc : c < 24) (hL : LsAt E a c f h) (kk : Q (.returned none) (ev_up (ev_up h (a + 1) (iA E 24 (upd f c x))) a (oB 2 [.ref (a + 1), .int (nI (c + 1))])) sz k n) : Ev E m_RowList_add d 0 [some (.ref a), some (.int x)] [] h sz k n Q := by
  refine ev_aload_0 (ev_dt dt_RowList_add_0 0 rfl) ?_
  refine ev_get (ev_dt dt_RowList_add_0 1 rfl) g_RowList_9_2 hL.1 rfl ?_
  refine ev_aload_0 (ev_dt dt_RowList_add_0 2 rfl) ?_
  refine ev_get (ev_dt dt_RowList_add_0 3 rfl) g_RowList_15_2 hL.1 rfl ?_
  refine ev_iload_1 (ev_dt dt_RowList_add_0 4 rfl) ?_
  refine ev_iast (ev_dt dt_RowList_add_0 5 rfl) hL.2 (by omega) (by decide) ?_
  refine ev_aload_0 (ev_dt dt_RowList_add_0 6 rfl) ?_
  refine ev_dup (ev_dt dt_RowList_add_0 7 rfl) rfl ?_
  refine ev_get (ev_dt dt_RowList_add_0 8 rfl) g_RowList_15_2 ((ev_up_n (by omega)).trans hL.1) rfl ?_
  refine ev_ic1 (ev_dt dt_RowList_add_0 9 rfl) ?_
  refine ev_addn (ev_dt dt_RowList_add_0 10 rfl) ?_
  refine ev_put [.ref (a + 1), .int (nI (c + 1))] (ev_dt dt_RowList_add_0 11 rfl) p_RowList_15_2 ((ev_up_n (by omega)).trans hL.1) rfl rfl rfl rfl ?_
  exact ev_return (ev_dt dt_RowList_add_0 12 rfl) rfl kk
theorem t_RowList_has {a c : Nat} {x : Int32} {f : Nat → Int32} (hc : c ≤ 24) (hL : LsAt E a c f h) (kt : (∃ i, i < c ∧ f i = x) → Q (.returned (some (.int (nI 1)))) h sz k n) (kf : (∀ i, i < c → f i ≠ x) → Q (.returned (some (.int (nI 0)))) h sz k n) : Ev E m_RowList_has d 0 [some (.ref a), some (.int x), none] [] h sz k n Q := by
  have loop : ∀ m j, j + m = c → (∀ i, i < j → f i ≠ x) → Ev E m_RowList_has d 2 [some (.ref a), some (.int x), some (.int (nI j))] [] h sz k n Q := by
    intro m
    induction m with
    | zero =>
      intro j hj hno
      refine ev_iload_2 (ev_dt dt_RowList_has_0 2 rfl) ?_
      refine ev_aload_0 (ev_dt dt_RowList_has_0 3 rfl) ?_
      refine ev_get (ev_dt dt_RowList_has_0 4 rfl) g_RowList_15_2 hL.1 rfl ?_
      refine ev_icmp_geT (tgt := 28) (ev_dt dt_RowList_has_0 5 rfl) (by decide) (nI_le (by omega) (by omega)) ?_
      refine ev_ic0 (ev_dt dt_RowList_has_0 16 rfl) ?_
      exact ev_ireturn (ev_dt dt_RowList_has_0 17 rfl) rfl bz0 (kf (fun i hi => hno i (by omega)))
    | succ m ih =>
      intro j hj hno
      refine ev_iload_2 (ev_dt dt_RowList_has_0 2 rfl) ?_
      refine ev_aload_0 (ev_dt dt_RowList_has_0 3 rfl) ?_
      refine ev_get (ev_dt dt_RowList_has_0 4 rfl) g_RowList_15_2 hL.1 rfl ?_
      refine ev_icmp_geF (tgt := 28) (ev_dt dt_RowList_has_0 5 rfl) (by decide) (nI_ge (by omega) (by omega)) ?_
      refine ev_aload_0 (ev_dt dt_RowList_has_0 6 rfl) ?_
      refine ev_get (ev_dt dt_RowList_has_0 7 rfl) g_RowList_9_2 hL.1 rfl ?_
      refine ev_iload_2 (ev_dt dt_RowList_has_0 8 rfl) ?_
      refine ev_iald (ev_dt dt_RowList_has_0 9 rfl) hL.2 (by omega) (by decide) rfl ?_
      refine ev_iload_1 (ev_dt dt_RowList_has_0 10 rfl) ?_
      refine ev_icmp_ne (tgt := 22) (ev_dt dt_RowList_has_0 11 rfl) (by decide) (fun hne => ?_) (fun heq => ?_)
      · refine ev_inc1_2 (ev_dt dt_RowList_has_0 14 rfl) (by decide) rfl ?_
        refine ev_goto (tgt := 2) (ev_dt dt_RowList_has_0 15 rfl) (by decide) ?_
        exact ih (j + 1) (by omega) (fun i hi => by
        by_cases e : i = j
        · subst e; exact hne
        · exact hno i (by omega))
      · refine ev_ic1 (ev_dt dt_RowList_has_0 12 rfl) ?_
        exact ev_ireturn (ev_dt dt_RowList_has_0 13 rfl) rfl bz1 (kt ⟨j, by omega, heq⟩)
  refine ev_ic0 (ev_dt dt_RowList_has_0 0 rfl) ?_
  refine ev_istore_2 (ev_dt dt_RowList_has_0 1 rfl) (by decide) rfl ?_
  exact loop c 0 (by omega) (fun i hi => absurd hi (Nat.not_lt_zero _))
theorem t_RowList_copyFrom {a b c c2 : Nat} {f g : Nat → Int32} (hc : c2 ≤ 24) (hab : a + 2 ≤ b ∨ b + 2 ≤ a) (hL : LsAt E a c f h) (hL2 : LsAt E b c2 g h) (kk : Q (.returned none) (ev_up (ev_up h (a + 1) (iA E 24 (va_cpy g f 0 0 c2))) a (oB 2 [.ref (a + 1), .int (nI c2)])) sz k n) : Ev E m_RowList_copyFrom (d + 1) 0 [some (.ref a), some (.ref b)] [] h sz k n Q := by
  refine ev_aload_1 (ev_dt dt_RowList_copyFrom_0 0 rfl) ?_
  refine ev_get (ev_dt dt_RowList_copyFrom_0 1 rfl) g_RowList_9_2 hL2.1 rfl ?_
  refine ev_ic0 (ev_dt dt_RowList_copyFrom_0 2 rfl) ?_
  refine ev_aload_0 (ev_dt dt_RowList_copyFrom_0 3 rfl) ?_
  refine ev_get (ev_dt dt_RowList_copyFrom_0 4 rfl) g_RowList_9_2 hL.1 rfl ?_
  refine ev_ic0 (ev_dt dt_RowList_copyFrom_0 5 rfl) ?_
  refine ev_aload_1 (ev_dt dt_RowList_copyFrom_0 6 rfl) ?_
  refine ev_get (ev_dt dt_RowList_copyFrom_0 7 rfl) g_RowList_15_2 hL2.1 rfl ?_
  refine ev_copy (ev_dt dt_RowList_copyFrom_0 8 rfl) a_RowList_19 hL2.2 hL.2 (by decide) (by decide) (by omega) (by omega) rfl ?_
  refine ev_aload_0 (ev_dt dt_RowList_copyFrom_0 9 rfl) ?_
  refine ev_aload_1 (ev_dt dt_RowList_copyFrom_0 10 rfl) ?_
  refine ev_get (ev_dt dt_RowList_copyFrom_0 11 rfl) g_RowList_15_2 ((ev_up_n (by omega)).trans hL2.1) rfl ?_
  refine ev_put [.ref (a + 1), .int (nI c2)] (ev_dt dt_RowList_copyFrom_0 12 rfl) p_RowList_15_2 ((ev_up_n (by omega)).trans hL.1) rfl rfl rfl rfl ?_
  exact ev_return (ev_dt dt_RowList_copyFrom_0 13 rfl) rfl kk
/-- what pick answers: f's first c numbers, of them those of the kind S (by place) -/
def pkR (c : Nat) (S : Nat → Bool) (f : Nat → Int32) (i r : Int32) : Prop := (∃ q, q < c ∧ S q = true ∧ i = nI (cnt S q) ∧ r = f q) ∨ ((∀ q, q < c → S q = true → i ≠ nI (cnt S q)) ∧ r = if i = -1 then nI (cnt S c) else -1)
theorem t_RowList_pick {a b c c2 : Nat} {x : Int32} {f g : Nat → Int32} {S : Nat → Bool} (hc : c ≤ 24) (hc2 : c2 ≤ 24) (hL : LsAt E a c f h) (hL2 : LsAt E b c2 g h) (hSS : ∀ q, q < c → (S q = true ↔ ∀ i, i < c2 → g i ≠ f q)) (kk : ∀ r, pkR c S f x r → Q (.returned (some (.int r))) h sz k n) : Ev E m_RowList_pick (d + 1) 0 [some (.ref a), some (.ref b), some (.int x), none, none] [] h sz k n Q := by
  have loop : ∀ m j, j + m = c → (∀ q, q < j → S q = true → x ≠ nI (cnt S q)) → Ev E m_RowList_pick (d + 1) 5 [some (.ref a), some (.ref b), some (.int x), some (.int (nI (cnt S j))), some (.int (nI j))] [] h sz k n Q := by
    intro m
    induction m with
    | zero =>
      intro j hj hno
      refine ev_iload_4 (ev_dt dt_RowList_pick_0 4 rfl) ?_
      refine ev_aload_0 (ev_dt dt_RowList_pick_0 5 rfl) ?_
      refine ev_get (ev_dt dt_RowList_pick_0 6 rfl) g_RowList_15_2 hL.1 rfl ?_
      refine ev_icmp_geT (tgt := 50) (ev_dt dt_RowList_pick_0 7 rfl) (by decide) (nI_le (by omega) (by omega)) ?_
      obtain rfl : j = c := by omega
      refine ev_iload_2 (ev_dt dt_RowList_pick_0 26 rfl) ?_
      refine ev_icm (ev_dt dt_RowList_pick_0 27 rfl) ?_
      refine ev_icmp_ne (tgt := 59) (ev_dt dt_RowList_pick_0 28 rfl) (by decide) (fun hm => ?_) (fun hm => ?_)
      · refine ev_icm (ev_dt dt_RowList_pick_0 31 rfl) ?_
        exact ev_ireturn (ev_dt dt_RowList_pick_0 32 rfl) rfl rfl (kk _ (Or.inr ⟨hno, by rw [if_neg hm]⟩))
      · refine ev_iload_3 (ev_dt dt_RowList_pick_0 29 rfl) ?_
        refine ev_goto (tgt := 60) (ev_dt dt_RowList_pick_0 30 rfl) (by decide) ?_
        exact ev_ireturn (ev_dt dt_RowList_pick_0 32 rfl) rfl rfl (kk _ (Or.inr ⟨hno, by rw [if_pos hm]⟩))
    | succ m ih =>
      intro j hj hno
      refine ev_iload_4 (ev_dt dt_RowList_pick_0 4 rfl) ?_
      refine ev_aload_0 (ev_dt dt_RowList_pick_0 5 rfl) ?_
      refine ev_get (ev_dt dt_RowList_pick_0 6 rfl) g_RowList_15_2 hL.1 rfl ?_
      refine ev_icmp_geF (tgt := 50) (ev_dt dt_RowList_pick_0 7 rfl) (by decide) (nI_ge (by omega) (by omega)) ?_
      refine ev_aload_1 (ev_dt dt_RowList_pick_0 8 rfl) ?_
      refine ev_aload_0 (ev_dt dt_RowList_pick_0 9 rfl) ?_
      refine ev_get (ev_dt dt_RowList_pick_0 10 rfl) g_RowList_9_2 hL.1 rfl ?_
      refine ev_iload_4 (ev_dt dt_RowList_pick_0 11 rfl) ?_
      refine ev_iald (ev_dt dt_RowList_pick_0 12 rfl) hL.2 (by omega) (by decide) rfl ?_
      refine ev_callV (ev_dt dt_RowList_pick_0 13 rfl) v_RowList_25_2 hL2.1 [.int (f j)] rfl np_RowList_has rfl (ev_lk_of (j := 1) rfl rfl) (t_RowList_has hc2 hL2 (fun hx => ev_r1 ?_) (fun hx => ev_r1 ?_))
      · have hS : S j = false := by
          rw [Bool.eq_false_iff]
          intro e
          obtain ⟨i, hi, e2⟩ := hx
          exact (hSS j (by omega)).mp e i hi e2
        refine ev_if_neT (tgt := 44) (ev_dt dt_RowList_pick_0 14 rfl) (by decide) z10 ?_
        refine ev_inc1_4 (ev_dt dt_RowList_pick_0 24 rfl) (by decide) rfl ?_
        refine ev_goto (tgt := 5) (ev_dt dt_RowList_pick_0 25 rfl) (by decide) ?_
        have e1 : cnt S (j + 1) = cnt S j := by rw [cnt_step, hS]; rfl
        rw [← e1]
        exact ih (j + 1) (by omega) (fun q hq hs => by
          by_cases e : q = j
          · subst e; rw [hS] at hs; cases hs
          · exact hno q (by omega) hs)
      · have hS : S j = true := (hSS j (by omega)).mpr hx
        refine ev_if_neF (tgt := 44) (ev_dt dt_RowList_pick_0 14 rfl) (by decide) z00 ?_
        refine ev_iload_3 (ev_dt dt_RowList_pick_0 15 rfl) ?_
        refine ev_iload_2 (ev_dt dt_RowList_pick_0 16 rfl) ?_
        refine ev_icmp_ne (tgt := 41) (ev_dt dt_RowList_pick_0 17 rfl) (by decide) (fun hm => ?_) (fun hm => ?_)
        · refine ev_inc1_3 (ev_dt dt_RowList_pick_0 23 rfl) (by decide) rfl ?_
          refine ev_inc1_4 (ev_dt dt_RowList_pick_0 24 rfl) (by decide) rfl ?_
          refine ev_goto (tgt := 5) (ev_dt dt_RowList_pick_0 25 rfl) (by decide) ?_
          have e1 : cnt S (j + 1) = cnt S j + 1 := by rw [cnt_step, if_pos hS]
          rw [← e1]
          exact ih (j + 1) (by omega) (fun q hq hs => by
            by_cases e : q = j
            · subst e; exact Ne.symm hm
            · exact hno q (by omega) hs)
        · refine ev_aload_0 (ev_dt dt_RowList_pick_0 18 rfl) ?_
          refine ev_get (ev_dt dt_RowList_pick_0 19 rfl) g_RowList_9_2 hL.1 rfl ?_
          refine ev_iload_4 (ev_dt dt_RowList_pick_0 20 rfl) ?_
          refine ev_iald (ev_dt dt_RowList_pick_0 21 rfl) hL.2 (by omega) (by decide) rfl ?_
          exact ev_ireturn (ev_dt dt_RowList_pick_0 22 rfl) rfl rfl (kk _ (Or.inl ⟨j, by omega, hS, hm.symm, rfl⟩))
  refine ev_ic0 (ev_dt dt_RowList_pick_0 0 rfl) ?_
  refine ev_istore_3 (ev_dt dt_RowList_pick_0 1 rfl) (by decide) rfl ?_
  refine ev_ic0 (ev_dt dt_RowList_pick_0 2 rfl) ?_
  refine ev_istore_4 (ev_dt dt_RowList_pick_0 3 rfl) (by decide) rfl ?_
  exact loop c 0 (by omega) (fun q hq => absurd hq (Nat.not_lt_zero _))
/-- conditions at a: c of them, columns on, operations op, numbers th -/
def CdAt (E : ev_E) (a c : Nat) (on op th : Nat → Int32) (h : ev_h) : Prop := h a = some (oB 3 [.ref (a + 1), .ref (a + 2), .ref (a + 3), .int (nI c)]) ∧ h (a + 1) = some (iA E 4 on) ∧ h (a + 2) = some (iA E 4 op) ∧ h (a + 3) = some (iA E 4 th)
theorem CdAt.kept {E : ev_E} {a c : Nat} {on op th : Nat → Int32} {h h' : ev_h} (hL : CdAt E a c on op th h) (hq : ∀ q, a ≤ q → q < a + 4 → h' q = h q) : CdAt E a c on op th h' :=
  ⟨(hq a (by omega) (by omega)).trans hL.1, (hq (a + 1) (by omega) (by omega)).trans hL.2.1, (hq (a + 2) (by omega) (by omega)).trans hL.2.2.1, (hq (a + 3) (by omega) (by omega)).trans hL.2.2.2⟩
/-- does a condition hold -/
def hld (o : Nat) (x v : Int32) : Bool := if o = 0 then decide (x = v) else if o = 1 then !decide (x = v) else if o = 2 then decide (x < v) else if o = 3 then decide (x ≤ v) else if o = 4 then decide (v < x) else decide (v ≤ x)
theorem t_Conditions_clear {a c : Nat} {on op th : Nat → Int32} (hL : CdAt E a c on op th h) (kk : Q (.returned none) (ev_up h a (oB 3 [.ref (a + 1), .ref (a + 2), .ref (a + 3), .int (nI 0)])) sz k n) : Ev E m_Conditions_clear d 0 [some (.ref a)] [] h sz k n Q := by
  refine ev_aload_0 (ev_dt dt_Conditions_clear_0 0 rfl) ?_
  refine ev_ic0 (ev_dt dt_Conditions_clear_0 1 rfl) ?_
  refine ev_put [.ref (a + 1), .ref (a + 2), .ref (a + 3), .int (nI 0)] (ev_dt dt_Conditions_clear_0 2 rfl) p_Conditions_21_3 hL.1 rfl rfl rfl rfl ?_
  exact ev_return (ev_dt dt_Conditions_clear_0 3 rfl) rfl kk
theorem t_Conditions_add {a c : Nat} {x y v : Int32} {on op th : Nat → Int32} (hc : c < 4) (hL : CdAt E a c on op th h) (kk : Q (.returned none) (ev_up (ev_up (ev_up (ev_up h (a + 1) (iA E 4 (upd on c x))) (a + 2) (iA E 4 (upd op c y))) (a + 3) (iA E 4 (upd th c v))) a (oB 3 [.ref (a + 1), .ref (a + 2), .ref (a + 3), .int (nI (c + 1))])) sz k n) : Ev E m_Conditions_add d 0 [some (.ref a), some (.int x), some (.int y), some (.int v)] [] h sz k n Q := by
  refine ev_aload_0 (ev_dt dt_Conditions_add_0 0 rfl) ?_
  refine ev_get (ev_dt dt_Conditions_add_0 1 rfl) g_Conditions_9_3 hL.1 rfl ?_
  refine ev_aload_0 (ev_dt dt_Conditions_add_0 2 rfl) ?_
  refine ev_get (ev_dt dt_Conditions_add_0 3 rfl) g_Conditions_21_3 hL.1 rfl ?_
  refine ev_iload_1 (ev_dt dt_Conditions_add_0 4 rfl) ?_
  refine ev_iast (ev_dt dt_Conditions_add_0 5 rfl) hL.2.1 (by omega) (by decide) ?_
  refine ev_aload_0 (ev_dt dt_Conditions_add_0 6 rfl) ?_
  refine ev_get (ev_dt dt_Conditions_add_0 7 rfl) g_Conditions_15_3 ((ev_up_n (by omega)).trans hL.1) rfl ?_
  refine ev_aload_0 (ev_dt dt_Conditions_add_0 8 rfl) ?_
  refine ev_get (ev_dt dt_Conditions_add_0 9 rfl) g_Conditions_21_3 ((ev_up_n (by omega)).trans hL.1) rfl ?_
  refine ev_iload_2 (ev_dt dt_Conditions_add_0 10 rfl) ?_
  refine ev_iast (ev_dt dt_Conditions_add_0 11 rfl) ((ev_up_n (by omega)).trans hL.2.2.1) (by omega) (by decide) ?_
  refine ev_aload_0 (ev_dt dt_Conditions_add_0 12 rfl) ?_
  refine ev_get (ev_dt dt_Conditions_add_0 13 rfl) g_Conditions_18_3 ((ev_up_n (by omega)).trans ((ev_up_n (by omega)).trans hL.1)) rfl ?_
  refine ev_aload_0 (ev_dt dt_Conditions_add_0 14 rfl) ?_
  refine ev_get (ev_dt dt_Conditions_add_0 15 rfl) g_Conditions_21_3 ((ev_up_n (by omega)).trans ((ev_up_n (by omega)).trans hL.1)) rfl ?_
  refine ev_iload_3 (ev_dt dt_Conditions_add_0 16 rfl) ?_
  refine ev_iast (ev_dt dt_Conditions_add_0 17 rfl) ((ev_up_n (by omega)).trans ((ev_up_n (by omega)).trans hL.2.2.2)) (by omega) (by decide) ?_
  refine ev_aload_0 (ev_dt dt_Conditions_add_0 18 rfl) ?_
  refine ev_dup (ev_dt dt_Conditions_add_0 19 rfl) rfl ?_
  refine ev_get (ev_dt dt_Conditions_add_0 20 rfl) g_Conditions_21_3 ((ev_up_n (by omega)).trans ((ev_up_n (by omega)).trans ((ev_up_n (by omega)).trans hL.1))) rfl ?_
  refine ev_ic1 (ev_dt dt_Conditions_add_0 21 rfl) ?_
  refine ev_addn (ev_dt dt_Conditions_add_0 22 rfl) ?_
  refine ev_put [.ref (a + 1), .ref (a + 2), .ref (a + 3), .int (nI (c + 1))] (ev_dt dt_Conditions_add_0 23 rfl) p_Conditions_21_3 ((ev_up_n (by omega)).trans ((ev_up_n (by omega)).trans ((ev_up_n (by omega)).trans hL.1))) rfl rfl rfl rfl ?_
  exact ev_return (ev_dt dt_Conditions_add_0 24 rfl) rfl kk
theorem t_Conditions_holds {o : Nat} {x v : Int32} (ho : o < 6) (kt : hld o x v = true → Q (.returned (some (.int (nI 1)))) h sz k n) (kf : hld o x v = false → Q (.returned (some (.int (nI 0)))) h sz k n) : Ev E m_Conditions_holds d 0 [some (.int x), some (.int (nI o)), some (.int v)] [] h sz k n Q := by
  obtain rfl | rfl | rfl | rfl | rfl | rfl : o = 0 ∨ o = 1 ∨ o = 2 ∨ o = 3 ∨ o = 4 ∨ o = 5 := by omega
  · refine ev_iload_1 (ev_dt dt_Conditions_holds_0 0 rfl) ?_
    refine ev_tabIn (tgt := 36) (off := 35) (ev_dt dt_Conditions_holds_0 1 rfl) (by decide +kernel) (by decide +kernel) (by decide +kernel) (by decide) ?_
    refine ev_iload_0 (ev_dt dt_Conditions_holds_0 2 rfl) ?_
    refine ev_iload_2 (ev_dt dt_Conditions_holds_0 3 rfl) ?_
    refine ev_icmp_ne (tgt := 45) (ev_dt dt_Conditions_holds_0 4 rfl) (by decide) (fun hb => ?_) (fun hb => ?_)
    · refine ev_ic0 (ev_dt dt_Conditions_holds_0 7 rfl) ?_
      exact ev_ireturn (ev_dt dt_Conditions_holds_0 8 rfl) rfl bz0 (kf (by simp [hld, hb]))
    · refine ev_ic1 (ev_dt dt_Conditions_holds_0 5 rfl) ?_
      refine ev_goto (tgt := 46) (ev_dt dt_Conditions_holds_0 6 rfl) (by decide) ?_
      exact ev_ireturn (ev_dt dt_Conditions_holds_0 8 rfl) rfl bz1 (kt (by simp [hld, hb]))
  · refine ev_iload_1 (ev_dt dt_Conditions_holds_0 0 rfl) ?_
    refine ev_tabIn (tgt := 47) (off := 46) (ev_dt dt_Conditions_holds_0 1 rfl) (by decide +kernel) (by decide +kernel) (by decide +kernel) (by decide) ?_
    refine ev_iload_0 (ev_dt dt_Conditions_holds_0 9 rfl) ?_
    refine ev_iload_2 (ev_dt dt_Conditions_holds_0 10 rfl) ?_
    refine ev_icmp_eq (tgt := 56) (ev_dt dt_Conditions_holds_0 11 rfl) (by decide) (fun hb => ?_) (fun hb => ?_)
    · refine ev_ic0 (ev_dt dt_Conditions_holds_0 14 rfl) ?_
      exact ev_ireturn (ev_dt dt_Conditions_holds_0 15 rfl) rfl bz0 (kf (by simp [hld, hb]))
    · refine ev_ic1 (ev_dt dt_Conditions_holds_0 12 rfl) ?_
      refine ev_goto (tgt := 57) (ev_dt dt_Conditions_holds_0 13 rfl) (by decide) ?_
      exact ev_ireturn (ev_dt dt_Conditions_holds_0 15 rfl) rfl bz1 (kt (by simp [hld, hb]))
  · refine ev_iload_1 (ev_dt dt_Conditions_holds_0 0 rfl) ?_
    refine ev_tabIn (tgt := 58) (off := 57) (ev_dt dt_Conditions_holds_0 1 rfl) (by decide +kernel) (by decide +kernel) (by decide +kernel) (by decide) ?_
    refine ev_iload_0 (ev_dt dt_Conditions_holds_0 16 rfl) ?_
    refine ev_iload_2 (ev_dt dt_Conditions_holds_0 17 rfl) ?_
    refine ev_icmp_ge (tgt := 67) (ev_dt dt_Conditions_holds_0 18 rfl) (by decide) (fun hb => ?_) (fun hb => ?_)
    · refine ev_ic0 (ev_dt dt_Conditions_holds_0 21 rfl) ?_
      exact ev_ireturn (ev_dt dt_Conditions_holds_0 22 rfl) rfl bz0 (kf (by first | simpa [hld] using hb | (simp only [hld]; simpa [Int32.not_le, Int32.not_lt] using hb)))
    · refine ev_ic1 (ev_dt dt_Conditions_holds_0 19 rfl) ?_
      refine ev_goto (tgt := 68) (ev_dt dt_Conditions_holds_0 20 rfl) (by decide) ?_
      exact ev_ireturn (ev_dt dt_Conditions_holds_0 22 rfl) rfl bz1 (kt (by first | simpa [hld] using hb | (simp only [hld]; simpa [Int32.not_le, Int32.not_lt] using hb)))
  · refine ev_iload_1 (ev_dt dt_Conditions_holds_0 0 rfl) ?_
    refine ev_tabIn (tgt := 69) (off := 68) (ev_dt dt_Conditions_holds_0 1 rfl) (by decide +kernel) (by decide +kernel) (by decide +kernel) (by decide) ?_
    refine ev_iload_0 (ev_dt dt_Conditions_holds_0 23 rfl) ?_
    refine ev_iload_2 (ev_dt dt_Conditions_holds_0 24 rfl) ?_
    refine ev_icmp_gt (tgt := 78) (ev_dt dt_Conditions_holds_0 25 rfl) (by decide) (fun hb => ?_) (fun hb => ?_)
    · refine ev_ic0 (ev_dt dt_Conditions_holds_0 28 rfl) ?_
      exact ev_ireturn (ev_dt dt_Conditions_holds_0 29 rfl) rfl bz0 (kf (by first | simpa [hld] using hb | (simp only [hld]; simpa [Int32.not_le, Int32.not_lt] using hb)))
    · refine ev_ic1 (ev_dt dt_Conditions_holds_0 26 rfl) ?_
      refine ev_goto (tgt := 79) (ev_dt dt_Conditions_holds_0 27 rfl) (by decide) ?_
      exact ev_ireturn (ev_dt dt_Conditions_holds_0 29 rfl) rfl bz1 (kt (by first | simpa [hld] using hb | (simp only [hld]; simpa [Int32.not_le, Int32.not_lt] using hb)))
  · refine ev_iload_1 (ev_dt dt_Conditions_holds_0 0 rfl) ?_
    refine ev_tabIn (tgt := 80) (off := 79) (ev_dt dt_Conditions_holds_0 1 rfl) (by decide +kernel) (by decide +kernel) (by decide +kernel) (by decide) ?_
    refine ev_iload_0 (ev_dt dt_Conditions_holds_0 30 rfl) ?_
    refine ev_iload_2 (ev_dt dt_Conditions_holds_0 31 rfl) ?_
    refine ev_icmp_le (tgt := 89) (ev_dt dt_Conditions_holds_0 32 rfl) (by decide) (fun hb => ?_) (fun hb => ?_)
    · refine ev_ic0 (ev_dt dt_Conditions_holds_0 35 rfl) ?_
      exact ev_ireturn (ev_dt dt_Conditions_holds_0 36 rfl) rfl bz0 (kf (by first | simpa [hld] using hb | (simp only [hld]; simpa [Int32.not_le, Int32.not_lt] using hb)))
    · refine ev_ic1 (ev_dt dt_Conditions_holds_0 33 rfl) ?_
      refine ev_goto (tgt := 90) (ev_dt dt_Conditions_holds_0 34 rfl) (by decide) ?_
      exact ev_ireturn (ev_dt dt_Conditions_holds_0 36 rfl) rfl bz1 (kt (by first | simpa [hld] using hb | (simp only [hld]; simpa [Int32.not_le, Int32.not_lt] using hb)))
  · refine ev_iload_1 (ev_dt dt_Conditions_holds_0 0 rfl) ?_
    refine ev_tabOut (tgt := 91) (ev_dt dt_Conditions_holds_0 1 rfl) (by decide +kernel) (by decide) ?_
    refine ev_iload_0 (ev_dt dt_Conditions_holds_0 37 rfl) ?_
    refine ev_iload_2 (ev_dt dt_Conditions_holds_0 38 rfl) ?_
    refine ev_icmp_lt (tgt := 100) (ev_dt dt_Conditions_holds_0 39 rfl) (by decide) (fun hb => ?_) (fun hb => ?_)
    · refine ev_ic0 (ev_dt dt_Conditions_holds_0 42 rfl) ?_
      exact ev_ireturn (ev_dt dt_Conditions_holds_0 43 rfl) rfl bz0 (kf (by first | simpa [hld] using hb | (simp only [hld]; simpa [Int32.not_le, Int32.not_lt] using hb)))
    · refine ev_ic1 (ev_dt dt_Conditions_holds_0 40 rfl) ?_
      refine ev_goto (tgt := 101) (ev_dt dt_Conditions_holds_0 41 rfl) (by decide) ?_
      exact ev_ireturn (ev_dt dt_Conditions_holds_0 43 rfl) rfl bz1 (kt (by first | simpa [hld] using hb | (simp only [hld]; simpa [Int32.not_le, Int32.not_lt] using hb)))
/-- do all conditions hold of a row V -/
def okC (c : Nat) (on op : Nat → Nat) (th : Nat → Int32) (V : Nat → Int32) : Prop := ∀ i, i < c → hld (op i) (V (on i)) (th i) = true
theorem t_Conditions_pass {a b c : Nat} {on op th V : Nat → Int32} {cn co : Nat → Nat} (hc : c ≤ 4) (hL : CdAt E a c on op th h) (hV : h b = some (iA E 4 V)) (hon : ∀ i, i < c → on i = nI (cn i) ∧ cn i < 4) (hop : ∀ i, i < c → op i = nI (co i) ∧ co i < 6) (kt : okC c cn co th V → Q (.returned (some (.int (nI 1)))) h sz k n) (kf : ¬ okC c cn co th V → Q (.returned (some (.int (nI 0)))) h sz k n) : Ev E m_Conditions_pass (d + 1) 0 [some (.ref a), some (.ref b), none] [] h sz k n Q := by
  have loop : ∀ m j, j + m = c → (∀ i, i < j → hld (co i) (V (cn i)) (th i) = true) → Ev E m_Conditions_pass (d + 1) 2 [some (.ref a), some (.ref b), some (.int (nI j))] [] h sz k n Q := by
    intro m
    induction m with
    | zero =>
      intro j hj hall
      refine ev_iload_2 (ev_dt dt_Conditions_pass_0 2 rfl) ?_
      refine ev_aload_0 (ev_dt dt_Conditions_pass_0 3 rfl) ?_
      refine ev_get (ev_dt dt_Conditions_pass_0 4 rfl) g_Conditions_21_3 hL.1 rfl ?_
      refine ev_icmp_geT (tgt := 44) (ev_dt dt_Conditions_pass_0 5 rfl) (by decide) (nI_le (by omega) (by omega)) ?_
      refine ev_ic1 (ev_dt dt_Conditions_pass_0 26 rfl) ?_
      exact ev_ireturn (ev_dt dt_Conditions_pass_0 27 rfl) rfl bz1 (kt (fun i hi => hall i (by omega)))
    | succ m ih =>
      intro j hj hall
      refine ev_iload_2 (ev_dt dt_Conditions_pass_0 2 rfl) ?_
      refine ev_aload_0 (ev_dt dt_Conditions_pass_0 3 rfl) ?_
      refine ev_get (ev_dt dt_Conditions_pass_0 4 rfl) g_Conditions_21_3 hL.1 rfl ?_
      refine ev_icmp_geF (tgt := 44) (ev_dt dt_Conditions_pass_0 5 rfl) (by decide) (nI_ge (by omega) (by omega)) ?_
      refine ev_aload_1 (ev_dt dt_Conditions_pass_0 6 rfl) ?_
      refine ev_aload_0 (ev_dt dt_Conditions_pass_0 7 rfl) ?_
      refine ev_get (ev_dt dt_Conditions_pass_0 8 rfl) g_Conditions_9_3 hL.1 rfl ?_
      refine ev_iload_2 (ev_dt dt_Conditions_pass_0 9 rfl) ?_
      refine ev_iald (ev_dt dt_Conditions_pass_0 10 rfl) hL.2.1 (by omega) (by decide) rfl ?_
      rw [(hon j (by omega)).1]
      have hcn := (hon j (by omega)).2
      refine ev_iald (ev_dt dt_Conditions_pass_0 11 rfl) hV (by omega) (by decide) rfl ?_
      refine ev_aload_0 (ev_dt dt_Conditions_pass_0 12 rfl) ?_
      refine ev_get (ev_dt dt_Conditions_pass_0 13 rfl) g_Conditions_15_3 hL.1 rfl ?_
      refine ev_iload_2 (ev_dt dt_Conditions_pass_0 14 rfl) ?_
      refine ev_iald (ev_dt dt_Conditions_pass_0 15 rfl) hL.2.2.1 (by omega) (by decide) rfl ?_
      rw [(hop j (by omega)).1]
      refine ev_aload_0 (ev_dt dt_Conditions_pass_0 16 rfl) ?_
      refine ev_get (ev_dt dt_Conditions_pass_0 17 rfl) g_Conditions_18_3 hL.1 rfl ?_
      refine ev_iload_2 (ev_dt dt_Conditions_pass_0 18 rfl) ?_
      refine ev_iald (ev_dt dt_Conditions_pass_0 19 rfl) hL.2.2.2 (by omega) (by decide) rfl ?_
      refine ev_callS (ev_dt dt_Conditions_pass_0 20 rfl) s_Conditions_32 [.int (V (cn j)), .int (nI (co j)), .int (th j)] rfl np_Conditions_holds rfl (ev_lk_of (j := 0) rfl rfl) (t_Conditions_holds (hop j (by omega)).2 (fun hx => ev_r1 ?_) (fun hx => ev_r1 ?_))
      · refine ev_if_neT (tgt := 38) (ev_dt dt_Conditions_pass_0 21 rfl) (by decide) z10 ?_
        refine ev_inc1_2 (ev_dt dt_Conditions_pass_0 24 rfl) (by decide) rfl ?_
        refine ev_goto (tgt := 2) (ev_dt dt_Conditions_pass_0 25 rfl) (by decide) ?_
        exact ih (j + 1) (by omega) (fun i hi => by
          by_cases e : i = j
          · subst e; exact hx
          · exact hall i (by omega))
      · refine ev_if_neF (tgt := 38) (ev_dt dt_Conditions_pass_0 21 rfl) (by decide) z00 ?_
        refine ev_ic0 (ev_dt dt_Conditions_pass_0 22 rfl) ?_
        exact ev_ireturn (ev_dt dt_Conditions_pass_0 23 rfl) rfl bz0 (kf (fun hz => by rw [hz j (by omega)] at hx; cases hx))
  refine ev_ic0 (ev_dt dt_Conditions_pass_0 0 rfl) ?_
  refine ev_istore_2 (ev_dt dt_Conditions_pass_0 1 rfl) (by decide) rfl ?_
  exact loop c 0 (by omega) (fun i hi => absurd hi (Nat.not_lt_zero _))
end C1
end
section
/-! The class's rows and its contest (written by gen_c2.py over walk.py). -/
/-- nothing outside a .. a + N - 1 has changed -/
def fI (a N : Nat) (h h' : ev_h) : Prop := ∀ q, q < a ∨ a + N ≤ q → h' q = h q
theorem fI.rf {a N : Nat} {h : ev_h} : fI a N h h := fun _ _ => rfl
theorem fI.tr {a N : Nat} {h h1 h2 : ev_h} (x : fI a N h h1) (y : fI a N h1 h2) : fI a N h h2 := fun q hq => (y q hq).trans (x q hq)
theorem fI.up {a N b : Nat} {h : ev_h} {x : va_E} (h1 : a ≤ b) (h2 : b < a + N) : fI a N h (ev_up h b x) := fun q hq => ev_up_n (by omega)
theorem fI.wide {a N b K : Nat} {h h' : ev_h} (x : fI a N h h') (h1 : b ≤ a) (h2 : a + N ≤ b + K) : fI b K h h' := fun q hq => x q (by omega)
/-- the rows that are there, at r: c of them, m made; numbers nu, values V -/
def rwf (r : Nat) : Nat → Option Nat := fun i => if i < 24 then some (r + 3 + i) else none
def RwAt (E : ev_E) (r c m : Nat) (nu : Nat → Int32) (V : Nat → Nat → Int32) (h : ev_h) : Prop := h r = some (oB 1 [.ref (r + 1), .ref (r + 2), .int (nI c), .int (nI m)]) ∧ h (r + 1) = some (iA E 24 nu) ∧ h (r + 2) = some (rA E 5 24 (rwf r)) ∧ ∀ i, i < 24 → h (r + 3 + i) = some (iA E 4 (V i))
theorem rw_v {r j : Nat} (hj : j < 24) : va_rf (rwf r j) = .ref (r + 3 + j) := by simp [rwf, va_rf, hj]
theorem RwAt.kept {E : ev_E} {r c m : Nat} {nu : Nat → Int32} {V : Nat → Nat → Int32} {h h' : ev_h} (hR : RwAt E r c m nu V h) (hq : ∀ q, r ≤ q → q < r + 27 → h' q = h q) : RwAt E r c m nu V h' :=
  ⟨(hq r (by omega) (by omega)).trans hR.1, (hq (r + 1) (by omega) (by omega)).trans hR.2.1, (hq (r + 2) (by omega) (by omega)).trans hR.2.2.1, fun i hi => (hq (r + 3 + i) (by omega) (by omega)).trans (hR.2.2.2 i hi)⟩
/-- the contest at q: who passes, beaters, levels -/
def CtAt (E : ev_E) (q : Nat) (pm : Int32) (be le : Nat → Int32) (h : ev_h) : Prop := h q = some (oB 5 [.ref (q + 1), .ref (q + 2), .int pm]) ∧ h (q + 1) = some (iA E 24 be) ∧ h (q + 2) = some (iA E 24 le)
section CT
variable {E : ev_E} {q : Nat} {pm : Int32} {be le : Nat → Int32} {h : ev_h}
theorem CtAt.kept {h' : ev_h} (hR : CtAt E q pm be le h) (hq : ∀ z, q ≤ z → z < q + 3 → h' z = h z) : CtAt E q pm be le h' := ⟨(hq q (by omega) (by omega)).trans hR.1, (hq (q + 1) (by omega) (by omega)).trans hR.2.1, (hq (q + 2) (by omega) (by omega)).trans hR.2.2⟩
theorem CtAt.setP (hC : CtAt E q pm be le h) (x : Int32) : CtAt E q x be le (ev_up h q (oB 5 [.ref (q + 1), .ref (q + 2), .int x])) ∧ fI q 3 h (ev_up h q (oB 5 [.ref (q + 1), .ref (q + 2), .int x])) := ⟨⟨ev_up_s, (ev_up_n (by omega)).trans hC.2.1, (ev_up_n (by omega)).trans hC.2.2⟩, fI.up (by omega) (by omega)⟩
theorem CtAt.setB (hC : CtAt E q pm be le h) (f : Nat → Int32) : CtAt E q pm f le (ev_up h (q + 1) (iA E 24 f)) ∧ fI q 3 h (ev_up h (q + 1) (iA E 24 f)) := ⟨⟨(ev_up_n (by omega)).trans hC.1, ev_up_s, (ev_up_n (by omega)).trans hC.2.2⟩, fI.up (by omega) (by omega)⟩
theorem CtAt.setL (hC : CtAt E q pm be le h) (f : Nat → Int32) : CtAt E q pm be f (ev_up h (q + 2) (iA E 24 f)) ∧ fI q 3 h (ev_up h (q + 2) (iA E 24 f)) := ⟨⟨(ev_up_n (by omega)).trans hC.1, (ev_up_n (by omega)).trans hC.2.1, ev_up_s⟩, fI.up (by omega) (by omega)⟩
end CT
section C2
variable {E : ev_E} {d : Nat} {h : ev_h} {sz k n : Nat} {Q : ev_Q}
theorem t_Rows_isFull {r c m : Nat} {nu : Nat → Int32} {V : Nat → Nat → Int32} (hc : c ≤ 24) (hm : m ≤ 120) (hR : RwAt E r c m nu V h) (kt : c = 24 ∨ m = 120 → Q (.returned (some (.int (nI 1)))) h sz k n) (kf : c ≠ 24 → m ≠ 120 → Q (.returned (some (.int (nI 0)))) h sz k n) : Ev E m_Rows_isFull d 0 [some (.ref r)] [] h sz k n Q := by
  refine ev_aload_0 (ev_dt dt_Rows_isFull_0 0 rfl) ?_
  refine ev_get (ev_dt dt_Rows_isFull_0 1 rfl) g_Rows_20_1 hR.1 rfl ?_
  refine ev_bipush (ev_dt dt_Rows_isFull_0 2 rfl) bi_24 ?_
  refine ev_icmp_eq (tgt := 18) (ev_dt dt_Rows_isFull_0 3 rfl) (by decide) (fun h1 => ?_) (fun h1 => ?_)
  · refine ev_ic1 (ev_dt dt_Rows_isFull_0 8 rfl) ?_
    refine ev_goto (tgt := 23) (ev_dt dt_Rows_isFull_0 9 rfl) (by decide) ?_
    exact ev_ireturn (ev_dt dt_Rows_isFull_0 11 rfl) rfl bz1 (kt (Or.inl ((nI_eq (by omega) (by omega)).mp h1)))
  · refine ev_aload_0 (ev_dt dt_Rows_isFull_0 4 rfl) ?_
    refine ev_get (ev_dt dt_Rows_isFull_0 5 rfl) g_Rows_24_1 hR.1 rfl ?_
    refine ev_bipush (ev_dt dt_Rows_isFull_0 6 rfl) bi_120 ?_
    refine ev_icmp_ne (tgt := 22) (ev_dt dt_Rows_isFull_0 7 rfl) (by decide) (fun h2 => ?_) (fun h2 => ?_)
    · refine ev_ic0 (ev_dt dt_Rows_isFull_0 10 rfl) ?_
      exact ev_ireturn (ev_dt dt_Rows_isFull_0 11 rfl) rfl bz0 (kf (fun e => h1 (by rw [e])) (fun e => h2 (by rw [e])))
    · refine ev_ic1 (ev_dt dt_Rows_isFull_0 8 rfl) ?_
      refine ev_goto (tgt := 23) (ev_dt dt_Rows_isFull_0 9 rfl) (by decide) ?_
      exact ev_ireturn (ev_dt dt_Rows_isFull_0 11 rfl) rfl bz1 (kt (Or.inr ((nI_eq (by omega) (by omega)).mp h2)))
theorem t_Rows_placeOf {r c m : Nat} {nu : Nat → Int32} {V : Nat → Nat → Int32} {x : Int32} (hc : c ≤ 24) (hR : RwAt E r c m nu V h) (kt : ∀ j, j < c → nu j = x → Q (.returned (some (.int (nI j)))) h sz k n) (kf : (∀ i, i < c → nu i ≠ x) → Q (.returned (some (.int (-1)))) h sz k n) : Ev E m_Rows_placeOf d 0 [some (.ref r), some (.int x), none] [] h sz k n Q := by
  have loop : ∀ m j, j + m = c → (∀ i, i < j → nu i ≠ x) → Ev E m_Rows_placeOf d 2 [some (.ref r), some (.int x), some (.int (nI j))] [] h sz k n Q := by
    intro m
    induction m with
    | zero =>
      intro j hj hno
      refine ev_iload_2 (ev_dt dt_Rows_placeOf_0 2 rfl) ?_
      refine ev_aload_0 (ev_dt dt_Rows_placeOf_0 3 rfl) ?_
      refine ev_get (ev_dt dt_Rows_placeOf_0 4 rfl) g_Rows_20_1 hR.1 rfl ?_
      refine ev_icmp_geT (tgt := 28) (ev_dt dt_Rows_placeOf_0 5 rfl) (by decide) (nI_le (by omega) (by omega)) ?_
      refine ev_icm (ev_dt dt_Rows_placeOf_0 16 rfl) ?_
      exact ev_ireturn (ev_dt dt_Rows_placeOf_0 17 rfl) rfl rfl (kf (fun i hi => hno i (by omega)))
    | succ m ih =>
      intro j hj hno
      refine ev_iload_2 (ev_dt dt_Rows_placeOf_0 2 rfl) ?_
      refine ev_aload_0 (ev_dt dt_Rows_placeOf_0 3 rfl) ?_
      refine ev_get (ev_dt dt_Rows_placeOf_0 4 rfl) g_Rows_20_1 hR.1 rfl ?_
      refine ev_icmp_geF (tgt := 28) (ev_dt dt_Rows_placeOf_0 5 rfl) (by decide) (nI_ge (by omega) (by omega)) ?_
      refine ev_aload_0 (ev_dt dt_Rows_placeOf_0 6 rfl) ?_
      refine ev_get (ev_dt dt_Rows_placeOf_0 7 rfl) g_Rows_9_1 hR.1 rfl ?_
      refine ev_iload_2 (ev_dt dt_Rows_placeOf_0 8 rfl) ?_
      refine ev_iald (ev_dt dt_Rows_placeOf_0 9 rfl) hR.2.1 (by omega) (by decide) rfl ?_
      refine ev_iload_1 (ev_dt dt_Rows_placeOf_0 10 rfl) ?_
      refine ev_icmp_ne (tgt := 22) (ev_dt dt_Rows_placeOf_0 11 rfl) (by decide) (fun hne => ?_) (fun heq => ?_)
      · refine ev_inc1_2 (ev_dt dt_Rows_placeOf_0 14 rfl) (by decide) rfl ?_
        refine ev_goto (tgt := 2) (ev_dt dt_Rows_placeOf_0 15 rfl) (by decide) ?_
        exact ih (j + 1) (by omega) (fun i hi => by
          by_cases e : i = j
          · subst e; exact hne
          · exact hno i (by omega))
      · refine ev_iload_2 (ev_dt dt_Rows_placeOf_0 12 rfl) ?_
        exact ev_ireturn (ev_dt dt_Rows_placeOf_0 13 rfl) rfl rfl (kt j (by omega) heq)
  refine ev_ic0 (ev_dt dt_Rows_placeOf_0 0 rfl) ?_
  refine ev_istore_2 (ev_dt dt_Rows_placeOf_0 1 rfl) (by decide) rfl ?_
  exact loop c 0 (by omega) (fun i hi => absurd hi (Nat.not_lt_zero _))
theorem t_Contest_isIn {x : Int32} {i : Nat} (hi : i < 32) (kt : bt x i = true → Q (.returned (some (.int (nI 1)))) h sz k n) (kf : bt x i = false → Q (.returned (some (.int (nI 0)))) h sz k n) : Ev E m_Contest_isIn d 0 [some (.int x), some (.int (nI i))] [] h sz k n Q := by
  refine ev_iload_0 (ev_dt dt_Contest_isIn_0 0 rfl) ?_
  refine ev_iload_1 (ev_dt dt_Contest_isIn_0 1 rfl) ?_
  refine ev_ishr (ev_dt dt_Contest_isIn_0 2 rfl) rfl ?_
  refine ev_ic1 (ev_dt dt_Contest_isIn_0 3 rfl) ?_
  refine ev_iand (ev_dt dt_Contest_isIn_0 4 rfl) rfl ?_
  refine ev_ic1 (ev_dt dt_Contest_isIn_0 5 rfl) ?_
  refine ev_icmp_ne (tgt := 13) (ev_dt dt_Contest_isIn_0 6 rfl) (by decide) (fun h1 => ?_) (fun h1 => ?_)
  · refine ev_ic0 (ev_dt dt_Contest_isIn_0 9 rfl) ?_
    exact ev_ireturn (ev_dt dt_Contest_isIn_0 10 rfl) rfl bz0 (kf (Bool.eq_false_iff.mpr (fun e => h1 ((q_tst hi).mpr e))))
  · refine ev_ic1 (ev_dt dt_Contest_isIn_0 7 rfl) ?_
    refine ev_goto (tgt := 14) (ev_dt dt_Contest_isIn_0 8 rfl) (by decide) ?_
    exact ev_ireturn (ev_dt dt_Contest_isIn_0 10 rfl) rfl bz1 (kt ((q_tst hi).mp h1))
theorem t_Contest_setLevel {q : Nat} {pm x y : Int32} {be le : Nat → Int32} (hC : CtAt E q pm be le h) (kk : ∀ h' le', CtAt E q pm be le' h' → fI q 3 h h' → (∀ i, i < 24 → le' i = if bt x i = true then y else le i) → Q (.returned none) h' sz k n) : Ev E m_Contest_setLevel (d + 1) 0 [some (.ref q), some (.int x), some (.int y), none] [] h sz k n Q := by
  have loop : ∀ m j h' le', j + m = 24 → CtAt E q pm be le' h' → fI q 3 h h' → (∀ i, i < 24 → le' i = if i < j ∧ bt x i = true then y else le i) → Ev E m_Contest_setLevel (d + 1) 2 [some (.ref q), some (.int x), some (.int y), some (.int (nI j))] [] h' sz k n Q := by
    intro m
    induction m with
    | zero =>
      intro j h' le' hj hC hF hI
      have hI : ∀ i, i < 24 → le' i = if bt x i = true then y else le i := fun i hi => by rw [hI i hi]; simp [show i < j by omega]
      refine ev_iload_3 (ev_dt dt_Contest_setLevel_0 2 rfl) ?_
      refine ev_bipush (ev_dt dt_Contest_setLevel_0 3 rfl) bi_24 ?_
      refine ev_icmp_geT (tgt := 29) (ev_dt dt_Contest_setLevel_0 4 rfl) (by decide) (nI_le (by omega) (by omega)) ?_
      exact ev_return (ev_dt dt_Contest_setLevel_0 16 rfl) rfl (kk h' le' hC hF (fun i hi => hI i (by omega)))
    | succ m ih =>
      intro j h' le' hj hC hF hI
      refine ev_iload_3 (ev_dt dt_Contest_setLevel_0 2 rfl) ?_
      refine ev_bipush (ev_dt dt_Contest_setLevel_0 3 rfl) bi_24 ?_
      refine ev_icmp_geF (tgt := 29) (ev_dt dt_Contest_setLevel_0 4 rfl) (by decide) (nI_ge (by omega) (by omega)) ?_
      refine ev_iload_1 (ev_dt dt_Contest_setLevel_0 5 rfl) ?_
      refine ev_iload_3 (ev_dt dt_Contest_setLevel_0 6 rfl) ?_
      refine ev_callS (ev_dt dt_Contest_setLevel_0 7 rfl) s_Contest_31 [.int x, .int (nI j)] rfl np_Contest_isIn rfl (ev_lk_of (j := 0) rfl rfl) (t_Contest_isIn (by omega) (fun hx => ev_r1 ?_) (fun hx => ev_r1 ?_))
      · refine ev_if_eqF (tgt := 23) (ev_dt dt_Contest_setLevel_0 8 rfl) (by decide) z10 ?_
        refine ev_aload_0 (ev_dt dt_Contest_setLevel_0 9 rfl) ?_
        refine ev_get (ev_dt dt_Contest_setLevel_0 10 rfl) g_Contest_15_5 hC.1 rfl ?_
        refine ev_iload_3 (ev_dt dt_Contest_setLevel_0 11 rfl) ?_
        refine ev_iload_2 (ev_dt dt_Contest_setLevel_0 12 rfl) ?_
        refine ev_iast (ev_dt dt_Contest_setLevel_0 13 rfl) hC.2.2 (by omega) (by decide) ?_
        refine ev_inc1_3 (ev_dt dt_Contest_setLevel_0 14 rfl) (by decide) rfl ?_
        refine ev_goto (tgt := 2) (ev_dt dt_Contest_setLevel_0 15 rfl) (by decide) ?_
        obtain ⟨hC', hF'⟩ := hC.setL (upd le' j y)
        exact ih (j + 1) _ _ (by omega) hC' (hF.tr hF') (fun i hi => by
          by_cases e : i = j
          · subst e; rw [pk_us]; simp [hx]
          · rw [pk_un e, hI i hi]; by_cases e2 : i < j
            · simp [e2, show i < j + 1 by omega]
            · simp [e2, show ¬ i < j + 1 by omega])
      · refine ev_if_eqT (tgt := 23) (ev_dt dt_Contest_setLevel_0 8 rfl) (by decide) z00 ?_
        refine ev_inc1_3 (ev_dt dt_Contest_setLevel_0 14 rfl) (by decide) rfl ?_
        refine ev_goto (tgt := 2) (ev_dt dt_Contest_setLevel_0 15 rfl) (by decide) ?_
        exact ih (j + 1) _ _ (by omega) hC hF (fun i hi => by
          rw [hI i hi]
          by_cases e : i = j
          · subst e; simp [hx]
          · by_cases e2 : i < j
            · simp [e2, show i < j + 1 by omega]
            · simp [e2, show ¬ i < j + 1 by omega])
  refine ev_ic0 (ev_dt dt_Contest_setLevel_0 0 rfl) ?_
  refine ev_istore_3 (ev_dt dt_Contest_setLevel_0 1 rfl) (by decide) rfl ?_
  exact loop 24 0 h le (by omega) hC fI.rf (fun i hi => by simp)
theorem t_Contest_unbeatenAmong {q : Nat} {pm x : Int32} {be le : Nat → Int32} (hC : CtAt E q pm be le h) (kk : ∀ u, (∀ i, i < 32 → bt u i = decide (i < 24 ∧ bt x i = true ∧ be i &&& x = 0)) → Q (.returned (some (.int u))) h sz k n) : Ev E m_Contest_unbeatenAmong (d + 1) 0 [some (.ref q), some (.int x), none, none] [] h sz k n Q := by
  have loop : ∀ m j u, j + m = 24 → (∀ i, i < 32 → bt u i = decide (i < j ∧ bt x i = true ∧ be i &&& x = 0)) → Ev E m_Contest_unbeatenAmong (d + 1) 4 [some (.ref q), some (.int x), some (.int u), some (.int (nI j))] [] h sz k n Q := by
    intro m
    induction m with
    | zero =>
      intro j u hj hI
      refine ev_iload_3 (ev_dt dt_Contest_unbeatenAmong_0 4 rfl) ?_
      refine ev_bipush (ev_dt dt_Contest_unbeatenAmong_0 5 rfl) bi_24 ?_
      refine ev_icmp_geT (tgt := 41) (ev_dt dt_Contest_unbeatenAmong_0 6 rfl) (by decide) (nI_le (by omega) (by omega)) ?_
      refine ev_iload_2 (ev_dt dt_Contest_unbeatenAmong_0 26 rfl) ?_
      exact ev_ireturn (ev_dt dt_Contest_unbeatenAmong_0 27 rfl) rfl rfl (kk u (fun i hi => by rw [hI i hi]; simp only [show (i < j) = (i < 24) by rw [show j = 24 by omega]]))
    | succ m ih =>
      intro j u hj hI
      refine ev_iload_3 (ev_dt dt_Contest_unbeatenAmong_0 4 rfl) ?_
      refine ev_bipush (ev_dt dt_Contest_unbeatenAmong_0 5 rfl) bi_24 ?_
      refine ev_icmp_geF (tgt := 41) (ev_dt dt_Contest_unbeatenAmong_0 6 rfl) (by decide) (nI_ge (by omega) (by omega)) ?_
      refine ev_iload_1 (ev_dt dt_Contest_unbeatenAmong_0 7 rfl) ?_
      refine ev_iload_3 (ev_dt dt_Contest_unbeatenAmong_0 8 rfl) ?_
      refine ev_callS (ev_dt dt_Contest_unbeatenAmong_0 9 rfl) s_Contest_31 [.int x, .int (nI j)] rfl np_Contest_isIn rfl (ev_lk_of (j := 0) rfl rfl) (t_Contest_isIn (by omega) (fun hx => ev_r1 ?_) (fun hx => ev_r1 ?_))
      · refine ev_if_eqF (tgt := 35) (ev_dt dt_Contest_unbeatenAmong_0 10 rfl) (by decide) z10 ?_
        refine ev_aload_0 (ev_dt dt_Contest_unbeatenAmong_0 11 rfl) ?_
        refine ev_get (ev_dt dt_Contest_unbeatenAmong_0 12 rfl) g_Contest_9_5 hC.1 rfl ?_
        refine ev_iload_3 (ev_dt dt_Contest_unbeatenAmong_0 13 rfl) ?_
        refine ev_iald (ev_dt dt_Contest_unbeatenAmong_0 14 rfl) hC.2.1 (by omega) (by decide) rfl ?_
        refine ev_iload_1 (ev_dt dt_Contest_unbeatenAmong_0 15 rfl) ?_
        refine ev_iand (ev_dt dt_Contest_unbeatenAmong_0 16 rfl) rfl ?_
        refine ev_if_ne (tgt := 35) (ev_dt dt_Contest_unbeatenAmong_0 17 rfl) (by decide) (fun hz => ?_) (fun hz => ?_)
        · refine ev_inc1_3 (ev_dt dt_Contest_unbeatenAmong_0 24 rfl) (by decide) rfl ?_
          refine ev_goto (tgt := 4) (ev_dt dt_Contest_unbeatenAmong_0 25 rfl) (by decide) ?_
          exact ih (j + 1) _ (by omega) (fun i hi => by
            rw [hI i hi]
            by_cases e : i = j
            · subst e; simp [hz, nI_0.symm ▸ hz]
            · simp only [show (i < j + 1) = (i < j) by apply propext; constructor <;> omega])
        · refine ev_iload_2 (ev_dt dt_Contest_unbeatenAmong_0 18 rfl) ?_
          refine ev_ic1 (ev_dt dt_Contest_unbeatenAmong_0 19 rfl) ?_
          refine ev_iload_3 (ev_dt dt_Contest_unbeatenAmong_0 20 rfl) ?_
          refine ev_ishl (ev_dt dt_Contest_unbeatenAmong_0 21 rfl) rfl ?_
          refine ev_ior (ev_dt dt_Contest_unbeatenAmong_0 22 rfl) rfl ?_
          refine ev_istore_2 (ev_dt dt_Contest_unbeatenAmong_0 23 rfl) (by decide) rfl ?_
          refine ev_inc1_3 (ev_dt dt_Contest_unbeatenAmong_0 24 rfl) (by decide) rfl ?_
          refine ev_goto (tgt := 4) (ev_dt dt_Contest_unbeatenAmong_0 25 rfl) (by decide) ?_
          exact ih (j + 1) _ (by omega) (fun i hi => by
            rw [b_or, q_sh1 (by omega) hi, hI i hi]
            by_cases e : i = j
            · subst e; simp [hx, hz]
            · simp only [e, decide_false, Bool.or_false, show (i < j + 1) = (i < j) by apply propext; constructor <;> omega])
      · refine ev_if_eqT (tgt := 35) (ev_dt dt_Contest_unbeatenAmong_0 10 rfl) (by decide) z00 ?_
        refine ev_inc1_3 (ev_dt dt_Contest_unbeatenAmong_0 24 rfl) (by decide) rfl ?_
        refine ev_goto (tgt := 4) (ev_dt dt_Contest_unbeatenAmong_0 25 rfl) (by decide) ?_
        exact ih (j + 1) _ (by omega) (fun i hi => by
            rw [hI i hi]
            by_cases e : i = j
            · subst e; simp [hx]
            · simp only [show (i < j + 1) = (i < j) by apply propext; constructor <;> omega])
  refine ev_ic0 (ev_dt dt_Contest_unbeatenAmong_0 0 rfl) ?_
  refine ev_istore_2 (ev_dt dt_Contest_unbeatenAmong_0 1 rfl) (by decide) rfl ?_
  refine ev_ic0 (ev_dt dt_Contest_unbeatenAmong_0 2 rfl) ?_
  refine ev_istore_3 (ev_dt dt_Contest_unbeatenAmong_0 3 rfl) (by decide) rfl ?_
  exact loop 24 0 (nI 0) (by omega) (fun i hi => by rw [q_0]; simp)
end C2
end
section
/-! Nodes of the class, and what they say (written by gen_c3.py over walk.py). -/
theorem l_sub (a b : Int32) : (a.toInt64 - b.toInt64).toInt = a.toInt - b.toInt := by
  rw [Int64.toInt_sub, Int32.toInt_toInt64, Int32.toInt_toInt64]
  have h1 := Int32.toInt_lt a
  have h2 := Int32.le_toInt a
  have h3 := Int32.toInt_lt b
  have h4 := Int32.le_toInt b
  exact Int.bmod_eq_of_le (by omega) (by omega)
theorem ge_iff {x y : Int64} : 0 ≤ lg_cmp x y ↔ y.toInt ≤ x.toInt := by rw [lg_cmp_ge, Int64.le_iff_toInt_le]
/-- node n at its address -/
def NdAt (E : ev_E) (N : nod) (ed : Nat → Nat → Int32) (zs : Nat → Nat) (cs : Nat → Int32) (ad : Nat → Nat) (n : Nat) (h : ev_h) : Prop :=
  (nK N n < 4 ∧ nC N n < 4 ∧ h (ad n) = some (oB 6 [.int (nA N n), .int (if nK N n = 2 then nA N n else nB N n), .int (nI (nC N n)), .int (nI (nK N n)), .int (nI n), .int (nI (zs n)), .int (cs n)])) ∨
  (nK N n = 4 ∧ nC N n < 4 ∧ h (ad n) = some (oB 7 [.ref (ad n + 1), .int (nI (nC N n)), .int (nI 4), .int (nI n), .int (nI (zs n)), .int (cs n)]) ∧ h (ad n + 1) = some (iA E 10 (nY N n))) ∨
  (nK N n = 5 ∧ nC N n < 4 ∧ h (ad n) = some (oB 8 [.ref (ad n + 1), .ref (ad n + 2), .int (nI (nC N n)), .int (nI 5), .int (nI n), .int (nI (zs n)), .int (cs n)]) ∧ h (ad n + 1) = some (iA E 10 (ed n)) ∧ h (ad n + 2) = some (iA E 10 (nR N n))) ∨
  (6 ≤ nK N n ∧ nK N n ≤ 9 ∧ nL N n < n ∧ nQ N n < n ∧ h (ad n) = some (oB 9 [.ref (ad (nL N n)), .ref (ad (nQ N n)), .int (nI (nK N n)), .int (nI n), .int (nI (zs n)), .int (cs n)]))
def ndM (N : nod) (n : Nat) : ev_M := if nK N n < 6 then m_Order_says else m_Term_says
section C3
variable {E : ev_E} {d : Nat} {h : ev_h} {sz k n : Nat} {Q : ev_Q}
theorem t_ValueOrder_distance {N : nod} {zs : Nat → Nat} {cs : Nat → Int32} {ad : Nat → Nat} {i : Nat} {x : Int32} (ho : h (ad i) = some (oB 6 [.int (nA N i), .int (if nK N i = 2 then nA N i else nB N i), .int (nI (nC N i)), .int (nI (nK N i)), .int (nI i), .int (nI (zs i)), .int (cs i)])) (kk : ∀ r : Int64, r.toInt = dst (nA N i).toInt (if nK N i = 2 then nA N i else nB N i).toInt x.toInt → Q (.returned (some (.long r))) h sz k n) : Ev E m_ValueOrder_distance d 0 [some (.ref (ad i)), some (.int x)] [] h sz k n Q := by
  refine ev_iload_1 (ev_dt dt_ValueOrder_distance_0 0 rfl) ?_
  refine ev_aload_0 (ev_dt dt_ValueOrder_distance_0 1 rfl) ?_
  refine ev_get (ev_dt dt_ValueOrder_distance_0 2 rfl) g_ValueOrder_9_6 ho rfl ?_
  refine ev_icmp_ge (tgt := 17) (ev_dt dt_ValueOrder_distance_0 3 rfl) (by decide) (fun h1 => ?_) (fun h1 => ?_)
  · have h1' : ¬ x.toInt < (nA N i).toInt := fun e => absurd (Int32.lt_iff_toInt_lt.mpr e) (Int32.not_lt.mpr h1)
    refine ev_iload_1 (ev_dt dt_ValueOrder_distance_0 11 rfl) ?_
    refine ev_aload_0 (ev_dt dt_ValueOrder_distance_0 12 rfl) ?_
    refine ev_get (ev_dt dt_ValueOrder_distance_0 13 rfl) g_ValueOrder_15_6 ho rfl ?_
    refine ev_icmp_le (tgt := 36) (ev_dt dt_ValueOrder_distance_0 14 rfl) (by decide) (fun h2 => ?_) (fun h2 => ?_)
    · have h2' : ¬ (if nK N i = 2 then nA N i else nB N i).toInt < x.toInt := fun e => absurd (Int32.lt_iff_toInt_lt.mpr e) (Int32.not_lt.mpr h2)
      refine ev_lconst (ev_dt dt_ValueOrder_distance_0 22 rfl) rfl ?_
      exact ev_lreturn (ev_dt dt_ValueOrder_distance_0 23 rfl) rfl (kk _ (by rw [dst, if_neg (fun e => h1' e), if_neg (fun e => h2' e)]; decide +kernel))
    · have h2' : (if nK N i = 2 then nA N i else nB N i).toInt < x.toInt := Int32.lt_iff_toInt_lt.mp (Int32.not_le.mp h2)
      refine ev_iload_1 (ev_dt dt_ValueOrder_distance_0 15 rfl) ?_
      refine ev_i2l (ev_dt dt_ValueOrder_distance_0 16 rfl) rfl ?_
      refine ev_aload_0 (ev_dt dt_ValueOrder_distance_0 17 rfl) ?_
      refine ev_get (ev_dt dt_ValueOrder_distance_0 18 rfl) g_ValueOrder_15_6 ho rfl ?_
      refine ev_i2l (ev_dt dt_ValueOrder_distance_0 19 rfl) rfl ?_
      refine ev_lsub (ev_dt dt_ValueOrder_distance_0 20 rfl) rfl ?_
      refine ev_goto (tgt := 37) (ev_dt dt_ValueOrder_distance_0 21 rfl) (by decide) ?_
      exact ev_lreturn (ev_dt dt_ValueOrder_distance_0 23 rfl) rfl (kk _ (by rw [l_sub, dst, if_neg (fun e => h1' e), if_pos h2']))
  · have h1' : x.toInt < (nA N i).toInt := Int32.lt_iff_toInt_lt.mp (Int32.not_le.mp h1)
    refine ev_aload_0 (ev_dt dt_ValueOrder_distance_0 4 rfl) ?_
    refine ev_get (ev_dt dt_ValueOrder_distance_0 5 rfl) g_ValueOrder_9_6 ho rfl ?_
    refine ev_i2l (ev_dt dt_ValueOrder_distance_0 6 rfl) rfl ?_
    refine ev_iload_1 (ev_dt dt_ValueOrder_distance_0 7 rfl) ?_
    refine ev_i2l (ev_dt dt_ValueOrder_distance_0 8 rfl) rfl ?_
    refine ev_lsub (ev_dt dt_ValueOrder_distance_0 9 rfl) rfl ?_
    exact ev_lreturn (ev_dt dt_ValueOrder_distance_0 10 rfl) rfl (kk _ (by rw [l_sub, dst, if_pos h1']))
theorem t_prefers_6 {N : nod} {zs : Nat → Nat} {cs : Nat → Int32} {ad : Nat → Nat} {i : Nat} {x y : Int32} (hK : nK N i < 4) (ho : h (ad i) = some (oB 6 [.int (nA N i), .int (if nK N i = 2 then nA N i else nB N i), .int (nI (nC N i)), .int (nI (nK N i)), .int (nI i), .int (nI (zs i)), .int (cs i)])) (kt : pf N i x y = true → Q (.returned (some (.int (nI 1)))) h sz k n) (kf : pf N i x y = false → Q (.returned (some (.int (nI 0)))) h sz k n) : Ev E m_ValueOrder_prefers (d + 1) 0 [some (.ref (ad i)), some (.int x), some (.int y)] [] h sz k n Q := by
  obtain hk | hk | hk | hk : nK N i = 0 ∨ nK N i = 1 ∨ nK N i = 2 ∨ nK N i = 3 := by omega
  · refine ev_aload_0 (ev_dt dt_ValueOrder_prefers_0 0 rfl) ?_
    refine ev_get (ev_dt dt_ValueOrder_prefers_0 1 rfl) g_ValueOrder_18_6 ho rfl ?_
    rw [hk]
    refine ev_look (tgt := 32) (off := 28) (ev_dt dt_ValueOrder_prefers_0 2 rfl) (by decide +kernel) (by decide +kernel) (by decide) ?_
    refine ev_iload_1 (ev_dt dt_ValueOrder_prefers_0 3 rfl) ?_
    refine ev_iload_2 (ev_dt dt_ValueOrder_prefers_0 4 rfl) ?_
    refine ev_icmp_ge (tgt := 41) (ev_dt dt_ValueOrder_prefers_0 5 rfl) (by decide) (fun hb => ?_) (fun hb => ?_)
    · refine ev_ic0 (ev_dt dt_ValueOrder_prefers_0 8 rfl) ?_
      exact ev_ireturn (ev_dt dt_ValueOrder_prefers_0 9 rfl) rfl bz0 (kf (by simp only [pf, hk]; simpa [Int32.not_le, Int32.not_lt] using hb))
    · refine ev_ic1 (ev_dt dt_ValueOrder_prefers_0 6 rfl) ?_
      refine ev_goto (tgt := 42) (ev_dt dt_ValueOrder_prefers_0 7 rfl) (by decide) ?_
      exact ev_ireturn (ev_dt dt_ValueOrder_prefers_0 9 rfl) rfl bz1 (kt (by simp only [pf, hk]; simpa [Int32.not_le, Int32.not_lt] using hb))
  · refine ev_aload_0 (ev_dt dt_ValueOrder_prefers_0 0 rfl) ?_
    refine ev_get (ev_dt dt_ValueOrder_prefers_0 1 rfl) g_ValueOrder_18_6 ho rfl ?_
    rw [hk]
    refine ev_look (tgt := 43) (off := 39) (ev_dt dt_ValueOrder_prefers_0 2 rfl) (by decide +kernel) (by decide +kernel) (by decide) ?_
    refine ev_iload_1 (ev_dt dt_ValueOrder_prefers_0 10 rfl) ?_
    refine ev_iload_2 (ev_dt dt_ValueOrder_prefers_0 11 rfl) ?_
    refine ev_icmp_le (tgt := 52) (ev_dt dt_ValueOrder_prefers_0 12 rfl) (by decide) (fun hb => ?_) (fun hb => ?_)
    · refine ev_ic0 (ev_dt dt_ValueOrder_prefers_0 15 rfl) ?_
      exact ev_ireturn (ev_dt dt_ValueOrder_prefers_0 16 rfl) rfl bz0 (kf (by simp only [pf, hk]; simpa [Int32.not_le, Int32.not_lt] using hb))
    · refine ev_ic1 (ev_dt dt_ValueOrder_prefers_0 13 rfl) ?_
      refine ev_goto (tgt := 53) (ev_dt dt_ValueOrder_prefers_0 14 rfl) (by decide) ?_
      exact ev_ireturn (ev_dt dt_ValueOrder_prefers_0 16 rfl) rfl bz1 (kt (by simp only [pf, hk]; simpa [Int32.not_le, Int32.not_lt] using hb))
  · refine ev_aload_0 (ev_dt dt_ValueOrder_prefers_0 0 rfl) ?_
    refine ev_get (ev_dt dt_ValueOrder_prefers_0 1 rfl) g_ValueOrder_18_6 ho rfl ?_
    rw [hk]
    refine ev_look (tgt := 54) (off := 50) (ev_dt dt_ValueOrder_prefers_0 2 rfl) (by decide +kernel) (by decide +kernel) (by decide) ?_
    refine ev_aload_0 (ev_dt dt_ValueOrder_prefers_0 17 rfl) ?_
    refine ev_iload_1 (ev_dt dt_ValueOrder_prefers_0 18 rfl) ?_
    refine ev_callV (ev_dt dt_ValueOrder_prefers_0 19 rfl) v_ValueOrder_21_6 ho [.int x] rfl np_ValueOrder_distance rfl (ev_lk_of (j := 0) rfl rfl) (t_ValueOrder_distance ho (fun r1 e1 => ev_r1 ?_))
    refine ev_aload_0 (ev_dt dt_ValueOrder_prefers_0 20 rfl) ?_
    refine ev_iload_2 (ev_dt dt_ValueOrder_prefers_0 21 rfl) ?_
    refine ev_callV (ev_dt dt_ValueOrder_prefers_0 22 rfl) v_ValueOrder_21_6 ho [.int y] rfl np_ValueOrder_distance rfl (ev_lk_of (j := 0) rfl rfl) (t_ValueOrder_distance ho (fun r2 e2 => ev_r1 ?_))
    refine ev_lcmp (ev_dt dt_ValueOrder_prefers_0 23 rfl) ?_
    have hpf : pf N i x y = decide (r1.toInt < r2.toInt) := by rw [e1, e2]; simp [pf, hk]
    refine ev_if_ge (tgt := 72) (ev_dt dt_ValueOrder_prefers_0 24 rfl) (by decide) (fun hb => ?_) (fun hb => ?_)
    · refine ev_ic0 (ev_dt dt_ValueOrder_prefers_0 27 rfl) ?_
      exact ev_ireturn (ev_dt dt_ValueOrder_prefers_0 28 rfl) rfl bz0 (kf (by rw [hpf, decide_eq_false_iff_not]; have := ge_iff.mp hb; omega))
    · refine ev_ic1 (ev_dt dt_ValueOrder_prefers_0 25 rfl) ?_
      refine ev_goto (tgt := 73) (ev_dt dt_ValueOrder_prefers_0 26 rfl) (by decide) ?_
      exact ev_ireturn (ev_dt dt_ValueOrder_prefers_0 28 rfl) rfl bz1 (kt (by rw [hpf, decide_eq_true_iff]; have := mt ge_iff.mpr hb; omega))
  · refine ev_aload_0 (ev_dt dt_ValueOrder_prefers_0 0 rfl) ?_
    refine ev_get (ev_dt dt_ValueOrder_prefers_0 1 rfl) g_ValueOrder_18_6 ho rfl ?_
    rw [hk]
    refine ev_look (tgt := 54) (off := 50) (ev_dt dt_ValueOrder_prefers_0 2 rfl) (by decide +kernel) (by decide +kernel) (by decide) ?_
    refine ev_aload_0 (ev_dt dt_ValueOrder_prefers_0 17 rfl) ?_
    refine ev_iload_1 (ev_dt dt_ValueOrder_prefers_0 18 rfl) ?_
    refine ev_callV (ev_dt dt_ValueOrder_prefers_0 19 rfl) v_ValueOrder_21_6 ho [.int x] rfl np_ValueOrder_distance rfl (ev_lk_of (j := 0) rfl rfl) (t_ValueOrder_distance ho (fun r1 e1 => ev_r1 ?_))
    refine ev_aload_0 (ev_dt dt_ValueOrder_prefers_0 20 rfl) ?_
    refine ev_iload_2 (ev_dt dt_ValueOrder_prefers_0 21 rfl) ?_
    refine ev_callV (ev_dt dt_ValueOrder_prefers_0 22 rfl) v_ValueOrder_21_6 ho [.int y] rfl np_ValueOrder_distance rfl (ev_lk_of (j := 0) rfl rfl) (t_ValueOrder_distance ho (fun r2 e2 => ev_r1 ?_))
    refine ev_lcmp (ev_dt dt_ValueOrder_prefers_0 23 rfl) ?_
    have hpf : pf N i x y = decide (r1.toInt < r2.toInt) := by rw [e1, e2]; simp [pf, hk]
    refine ev_if_ge (tgt := 72) (ev_dt dt_ValueOrder_prefers_0 24 rfl) (by decide) (fun hb => ?_) (fun hb => ?_)
    · refine ev_ic0 (ev_dt dt_ValueOrder_prefers_0 27 rfl) ?_
      exact ev_ireturn (ev_dt dt_ValueOrder_prefers_0 28 rfl) rfl bz0 (kf (by rw [hpf, decide_eq_false_iff_not]; have := ge_iff.mp hb; omega))
    · refine ev_ic1 (ev_dt dt_ValueOrder_prefers_0 25 rfl) ?_
      refine ev_goto (tgt := 73) (ev_dt dt_ValueOrder_prefers_0 26 rfl) (by decide) ?_
      exact ev_ireturn (ev_dt dt_ValueOrder_prefers_0 28 rfl) rfl bz1 (kt (by rw [hpf, decide_eq_true_iff]; have := mt ge_iff.mpr hb; omega))
theorem t_Layers_find {N : nod} {zs : Nat → Nat} {cs : Nat → Int32} {ad : Nat → Nat} {i : Nat} {x : Int32} (ho : h (ad i) = some (oB 7 [.ref (ad i + 1), .int (nI (nC N i)), .int (nI 4), .int (nI i), .int (nI (zs i)), .int (cs i)])) (hy : h (ad i + 1) = some (iA E 10 (nY N i))) (kk : Q (.returned (some (.int (lyr (nY N i) x)))) h sz k n) : Ev E m_Layers_find (d + 1) 0 [some (.ref (ad i)), some (.int x)] [] h sz k n Q := by
  refine ev_iload_1 (ev_dt dt_Layers_find_0 0 rfl) ?_
  refine ev_callS (ev_dt dt_Layers_find_0 1 rfl) s_Layers_19 [.int x] rfl np_PT_isGraded rfl (ev_lk_of (j := 0) rfl rfl) (t_PT_isGraded (fun hx => ev_r1 ?_) (fun hx => ev_r1 ?_))
  · obtain ⟨j, hj, rfl⟩ := hx
    refine ev_if_eqF (tgt := 16) (ev_dt dt_Layers_find_0 2 rfl) (by decide) z10 ?_
    refine ev_aload_0 (ev_dt dt_Layers_find_0 3 rfl) ?_
    refine ev_get (ev_dt dt_Layers_find_0 4 rfl) g_Layers_9_7 ho rfl ?_
    refine ev_iload_1 (ev_dt dt_Layers_find_0 5 rfl) ?_
    refine ev_iald (ev_dt dt_Layers_find_0 6 rfl) hy (by omega) (by decide) rfl ?_
    refine ev_goto (tgt := 17) (ev_dt dt_Layers_find_0 7 rfl) (by decide) ?_
    rw [show nY N i j = lyr (nY N i) (nI j) by rw [lyr, if_pos (gr_nI hj), nI_clamp (by omega)]]
    exact ev_ireturn (ev_dt dt_Layers_find_0 9 rfl) rfl rfl kk
  · refine ev_if_eqT (tgt := 16) (ev_dt dt_Layers_find_0 2 rfl) (by decide) z00 ?_
    refine ev_icm (ev_dt dt_Layers_find_0 8 rfl) ?_
    rw [show (-1 : Int32) = lyr (nY N i) x by rw [lyr, if_neg (fun e => hx _ (gr_of e).1 (gr_of e).2)]]
    exact ev_ireturn (ev_dt dt_Layers_find_0 9 rfl) rfl rfl kk
theorem t_prefers_7 {N : nod} {zs : Nat → Nat} {cs : Nat → Int32} {ad : Nat → Nat} {i : Nat} {x y : Int32} (hK : nK N i = 4) (ho : h (ad i) = some (oB 7 [.ref (ad i + 1), .int (nI (nC N i)), .int (nI 4), .int (nI i), .int (nI (zs i)), .int (cs i)])) (hy : h (ad i + 1) = some (iA E 10 (nY N i))) (kt : pf N i x y = true → Q (.returned (some (.int (nI 1)))) h sz k n) (kf : pf N i x y = false → Q (.returned (some (.int (nI 0)))) h sz k n) : Ev E m_Layers_prefers (d + 2) 0 [some (.ref (ad i)), some (.int x), some (.int y), none, none] [] h sz k n Q := by
  refine ev_aload_0 (ev_dt dt_Layers_prefers_0 0 rfl) ?_
  refine ev_iload_1 (ev_dt dt_Layers_prefers_0 1 rfl) ?_
  refine ev_callV (ev_dt dt_Layers_prefers_0 2 rfl) v_Layers_15_7 ho [.int x] rfl np_Layers_find rfl (ev_lk_of (j := 0) rfl rfl) (t_Layers_find ho hy (ev_r1 ?_))
  refine ev_istore_3 (ev_dt dt_Layers_prefers_0 3 rfl) (by decide) rfl ?_
  refine ev_aload_0 (ev_dt dt_Layers_prefers_0 4 rfl) ?_
  refine ev_iload_2 (ev_dt dt_Layers_prefers_0 5 rfl) ?_
  refine ev_callV (ev_dt dt_Layers_prefers_0 6 rfl) v_Layers_15_7 ho [.int y] rfl np_Layers_find rfl (ev_lk_of (j := 0) rfl rfl) (t_Layers_find ho hy (ev_r1 ?_))
  refine ev_istore_4 (ev_dt dt_Layers_prefers_0 7 rfl) (by decide) rfl ?_
  refine ev_iload_3 (ev_dt dt_Layers_prefers_0 8 rfl) ?_
  refine ev_icm (ev_dt dt_Layers_prefers_0 9 rfl) ?_
  have hpf : pf N i x y = (decide (lyr (nY N i) x ≠ -1) && (decide (lyr (nY N i) y = -1) || decide (lyr (nY N i) x < lyr (nY N i) y))) := by simp [pf, hK]
  refine ev_icmp_eq (tgt := 34) (ev_dt dt_Layers_prefers_0 10 rfl) (by decide) (fun h1 => ?_) (fun h1 => ?_)
  · refine ev_ic0 (ev_dt dt_Layers_prefers_0 19 rfl) ?_
    exact ev_ireturn (ev_dt dt_Layers_prefers_0 20 rfl) rfl bz0 (kf (by rw [hpf]; simp [h1]))
  · refine ev_iload_4 (ev_dt dt_Layers_prefers_0 11 rfl) ?_
    refine ev_icm (ev_dt dt_Layers_prefers_0 12 rfl) ?_
    refine ev_icmp_eq (tgt := 30) (ev_dt dt_Layers_prefers_0 13 rfl) (by decide) (fun h2 => ?_) (fun h2 => ?_)
    · refine ev_ic1 (ev_dt dt_Layers_prefers_0 17 rfl) ?_
      refine ev_goto (tgt := 35) (ev_dt dt_Layers_prefers_0 18 rfl) (by decide) ?_
      exact ev_ireturn (ev_dt dt_Layers_prefers_0 20 rfl) rfl bz1 (kt (by rw [hpf]; simp [h1, h2]))
    · refine ev_iload_4 (ev_dt dt_Layers_prefers_0 14 rfl) ?_
      refine ev_iload_3 (ev_dt dt_Layers_prefers_0 15 rfl) ?_
      refine ev_icmp_le (tgt := 34) (ev_dt dt_Layers_prefers_0 16 rfl) (by decide) (fun h3 => ?_) (fun h3 => ?_)
      · refine ev_ic0 (ev_dt dt_Layers_prefers_0 19 rfl) ?_
        exact ev_ireturn (ev_dt dt_Layers_prefers_0 20 rfl) rfl bz0 (kf (by rw [hpf]; simp [h1, h2, Int32.not_lt.mpr h3]))
      · refine ev_ic1 (ev_dt dt_Layers_prefers_0 17 rfl) ?_
        refine ev_goto (tgt := 35) (ev_dt dt_Layers_prefers_0 18 rfl) (by decide) ?_
        exact ev_ireturn (ev_dt dt_Layers_prefers_0 20 rfl) rfl bz1 (kt (by rw [hpf]; simp [h1, h2, Int32.not_le.mp h3]))
theorem t_Graph_leads {N : nod} {zs : Nat → Nat} {cs : Nat → Int32} {ad : Nat → Nat} {i : Nat} {x y : Nat} (hx : x < 10) (hy : y < 10) (ho : h (ad i) = some (oB 8 [.ref (ad i + 1), .ref (ad i + 2), .int (nI (nC N i)), .int (nI 5), .int (nI i), .int (nI (zs i)), .int (cs i)])) (hr : h (ad i + 2) = some (iA E 10 (nR N i))) (kt : bt (nR N i x) y = true → Q (.returned (some (.int (nI 1)))) h sz k n) (kf : bt (nR N i x) y = false → Q (.returned (some (.int (nI 0)))) h sz k n) : Ev E m_Graph_leads d 0 [some (.ref (ad i)), some (.int (nI x)), some (.int (nI y))] [] h sz k n Q := by
  refine ev_aload_0 (ev_dt dt_Graph_leads_0 0 rfl) ?_
  refine ev_get (ev_dt dt_Graph_leads_0 1 rfl) g_Graph_15_8 ho rfl ?_
  refine ev_iload_1 (ev_dt dt_Graph_leads_0 2 rfl) ?_
  refine ev_iald (ev_dt dt_Graph_leads_0 3 rfl) hr (by omega) (by decide) rfl ?_
  refine ev_iload_2 (ev_dt dt_Graph_leads_0 4 rfl) ?_
  refine ev_ishr (ev_dt dt_Graph_leads_0 5 rfl) rfl ?_
  refine ev_ic1 (ev_dt dt_Graph_leads_0 6 rfl) ?_
  refine ev_iand (ev_dt dt_Graph_leads_0 7 rfl) rfl ?_
  refine ev_ic1 (ev_dt dt_Graph_leads_0 8 rfl) ?_
  refine ev_icmp_ne (tgt := 18) (ev_dt dt_Graph_leads_0 9 rfl) (by decide) (fun h1 => ?_) (fun h1 => ?_)
  · refine ev_ic0 (ev_dt dt_Graph_leads_0 12 rfl) ?_
    exact ev_ireturn (ev_dt dt_Graph_leads_0 13 rfl) rfl bz0 (kf (Bool.eq_false_iff.mpr (fun e => h1 ((q_tst (by omega)).mpr e))))
  · refine ev_ic1 (ev_dt dt_Graph_leads_0 10 rfl) ?_
    refine ev_goto (tgt := 19) (ev_dt dt_Graph_leads_0 11 rfl) (by decide) ?_
    exact ev_ireturn (ev_dt dt_Graph_leads_0 13 rfl) rfl bz1 (kt ((q_tst (by omega)).mp h1))
theorem t_prefers_8 {N : nod} {zs : Nat → Nat} {cs : Nat → Int32} {ad : Nat → Nat} {i : Nat} {x y : Int32} (hK : nK N i = 5) (ho : h (ad i) = some (oB 8 [.ref (ad i + 1), .ref (ad i + 2), .int (nI (nC N i)), .int (nI 5), .int (nI i), .int (nI (zs i)), .int (cs i)])) (hr : h (ad i + 2) = some (iA E 10 (nR N i))) (kt : pf N i x y = true → Q (.returned (some (.int (nI 1)))) h sz k n) (kf : pf N i x y = false → Q (.returned (some (.int (nI 0)))) h sz k n) : Ev E m_Graph_prefers (d + 1) 0 [some (.ref (ad i)), some (.int x), some (.int y)] [] h sz k n Q := by
  refine ev_iload_1 (ev_dt dt_Graph_prefers_0 0 rfl) ?_
  refine ev_callS (ev_dt dt_Graph_prefers_0 1 rfl) s_Graph_18 [.int x] rfl np_PT_isGraded rfl (ev_lk_of (j := 0) rfl rfl) (t_PT_isGraded (fun hx => ev_r1 ?_) (fun hx => ev_r1 ?_))
  · obtain ⟨j, hj, rfl⟩ := hx
    refine ev_if_eqF (tgt := 27) (ev_dt dt_Graph_prefers_0 2 rfl) (by decide) z10 ?_
    refine ev_iload_2 (ev_dt dt_Graph_prefers_0 3 rfl) ?_
    refine ev_callS (ev_dt dt_Graph_prefers_0 4 rfl) s_Graph_18 [.int y] rfl np_PT_isGraded rfl (ev_lk_of (j := 0) rfl rfl) (t_PT_isGraded (fun hx => ev_r1 ?_) (fun hx => ev_r1 ?_))
    · obtain ⟨l, hl, rfl⟩ := hx
      refine ev_if_eqF (tgt := 27) (ev_dt dt_Graph_prefers_0 5 rfl) (by decide) z10 ?_
      refine ev_aload_0 (ev_dt dt_Graph_prefers_0 6 rfl) ?_
      refine ev_iload_1 (ev_dt dt_Graph_prefers_0 7 rfl) ?_
      refine ev_iload_2 (ev_dt dt_Graph_prefers_0 8 rfl) ?_
      have hpf : pf N i (nI j) (nI l) = bt (nR N i j) l := by simp [pf, hK, gr_nI hj, gr_nI hl, nI_clamp (show j < 2 ^ 31 by omega), nI_clamp (show l < 2 ^ 31 by omega)]
      refine ev_callV (ev_dt dt_Graph_prefers_0 9 rfl) v_Graph_22_8 ho [.int (nI j), .int (nI l)] rfl np_Graph_leads rfl (ev_lk_of (j := 0) rfl rfl) (t_Graph_leads hj hl ho hr (fun hx => ev_r1 ?_) (fun hx => ev_r1 ?_))
      · refine ev_if_eqF (tgt := 27) (ev_dt dt_Graph_prefers_0 10 rfl) (by decide) z10 ?_
        refine ev_ic1 (ev_dt dt_Graph_prefers_0 11 rfl) ?_
        refine ev_goto (tgt := 28) (ev_dt dt_Graph_prefers_0 12 rfl) (by decide) ?_
        exact ev_ireturn (ev_dt dt_Graph_prefers_0 14 rfl) rfl bz1 (kt (hpf.trans hx))
      · refine ev_if_eqT (tgt := 27) (ev_dt dt_Graph_prefers_0 10 rfl) (by decide) z00 ?_
        refine ev_ic0 (ev_dt dt_Graph_prefers_0 13 rfl) ?_
        exact ev_ireturn (ev_dt dt_Graph_prefers_0 14 rfl) rfl bz0 (kf (hpf.trans hx))
    · refine ev_if_eqT (tgt := 27) (ev_dt dt_Graph_prefers_0 5 rfl) (by decide) z00 ?_
      refine ev_ic0 (ev_dt dt_Graph_prefers_0 13 rfl) ?_
      have hg : gr y = false := Bool.eq_false_iff.mpr (fun e => hx _ (gr_of e).1 (gr_of e).2)
      exact ev_ireturn (ev_dt dt_Graph_prefers_0 14 rfl) rfl bz0 (kf (by simp [pf, hK, hg]))
  · refine ev_if_eqT (tgt := 27) (ev_dt dt_Graph_prefers_0 2 rfl) (by decide) z00 ?_
    refine ev_ic0 (ev_dt dt_Graph_prefers_0 13 rfl) ?_
    have hg : gr x = false := Bool.eq_false_iff.mpr (fun e => hx _ (gr_of e).1 (gr_of e).2)
    exact ev_ireturn (ev_dt dt_Graph_prefers_0 14 rfl) rfl bz0 (kf (by simp [pf, hK, hg]))
theorem t_Order_says_6 {N : nod} {zs : Nat → Nat} {cs : Nat → Int32} {ad : Nat → Nat} {i : Nat} {u v : Nat} {U V : Nat → Int32} (hK : nK N i < 4) (hcl : nC N i < 4) (ho : h (ad i) = some (oB 6 [.int (nA N i), .int (if nK N i = 2 then nA N i else nB N i), .int (nI (nC N i)), .int (nI (nK N i)), .int (nI i), .int (nI (zs i)), .int (cs i)])) (hu : h u = some (iA E 4 U)) (hv : h v = some (iA E 4 V)) (kk : Q (.returned (some (.int (nI (say N U V i).val)))) h sz k n) : Ev E m_Order_says (d + 3) 0 [some (.ref (ad i)), some (.ref u), some (.ref v), none, none] [] h sz k n Q := by
  have hs : say N U V i = so N i (U (nC N i)) (V (nC N i)) := say_o (by omega)
  refine ev_aload_1 (ev_dt dt_Order_says_0 0 rfl) ?_
  refine ev_aload_0 (ev_dt dt_Order_says_0 1 rfl) ?_
  refine ev_get (ev_dt dt_Order_says_0 2 rfl) g_Order_9_6 ho rfl ?_
  refine ev_iald (ev_dt dt_Order_says_0 3 rfl) hu (by omega) (by decide) rfl ?_
  refine ev_istore_3 (ev_dt dt_Order_says_0 4 rfl) (by decide) rfl ?_
  refine ev_aload_2 (ev_dt dt_Order_says_0 5 rfl) ?_
  refine ev_aload_0 (ev_dt dt_Order_says_0 6 rfl) ?_
  refine ev_get (ev_dt dt_Order_says_0 7 rfl) g_Order_9_6 ho rfl ?_
  refine ev_iald (ev_dt dt_Order_says_0 8 rfl) hv (by omega) (by decide) rfl ?_
  refine ev_istore_4 (ev_dt dt_Order_says_0 9 rfl) (by decide) rfl ?_
  refine ev_iload_3 (ev_dt dt_Order_says_0 10 rfl) ?_
  refine ev_iload_4 (ev_dt dt_Order_says_0 11 rfl) ?_
  refine ev_icmp_ne (tgt := 23) (ev_dt dt_Order_says_0 12 rfl) (by decide) (fun h1 => ?_) (fun h1 => ?_)
  · refine ev_aload_0 (ev_dt dt_Order_says_0 15 rfl) ?_
    refine ev_iload_3 (ev_dt dt_Order_says_0 16 rfl) ?_
    refine ev_iload_4 (ev_dt dt_Order_says_0 17 rfl) ?_
    refine ev_callU (ev_dt dt_Order_says_0 18 rfl) u_Order_15_6 ho [.int (U (nC N i)), .int (V (nC N i))] rfl np_ValueOrder_prefers rfl (ev_lk_of (j := 0) rfl rfl) (t_prefers_6 hK ho (fun hx => ev_r1 ?_) (fun hx => ev_r1 ?_))
    · refine ev_if_eqF (tgt := 35) (ev_dt dt_Order_says_0 19 rfl) (by decide) z10 ?_
      refine ev_ic1 (ev_dt dt_Order_says_0 20 rfl) ?_
      rw [hs, so, if_neg h1, if_pos hx] at kk
      exact ev_ireturn (ev_dt dt_Order_says_0 21 rfl) rfl rfl kk
    · refine ev_if_eqT (tgt := 35) (ev_dt dt_Order_says_0 19 rfl) (by decide) z00 ?_
      refine ev_aload_0 (ev_dt dt_Order_says_0 22 rfl) ?_
      refine ev_iload_4 (ev_dt dt_Order_says_0 23 rfl) ?_
      refine ev_iload_3 (ev_dt dt_Order_says_0 24 rfl) ?_
      refine ev_callU (ev_dt dt_Order_says_0 25 rfl) u_Order_15_6 ho [.int (V (nC N i)), .int (U (nC N i))] rfl np_ValueOrder_prefers rfl (ev_lk_of (j := 0) rfl rfl) (t_prefers_6 hK ho (fun hx2 => ev_r1 ?_) (fun hx2 => ev_r1 ?_))
      · refine ev_if_eqF (tgt := 49) (ev_dt dt_Order_says_0 26 rfl) (by decide) z10 ?_
        refine ev_ic2 (ev_dt dt_Order_says_0 27 rfl) ?_
        refine ev_goto (tgt := 50) (ev_dt dt_Order_says_0 28 rfl) (by decide) ?_
        rw [hs, so, if_neg h1, if_neg (by rw [hx]; decide), if_pos hx2] at kk
        exact ev_ireturn (ev_dt dt_Order_says_0 30 rfl) rfl rfl kk
      · refine ev_if_eqT (tgt := 49) (ev_dt dt_Order_says_0 26 rfl) (by decide) z00 ?_
        refine ev_ic0 (ev_dt dt_Order_says_0 29 rfl) ?_
        rw [hs, so, if_neg h1, if_neg (by rw [hx]; decide), if_neg (by rw [hx2]; decide)] at kk
        exact ev_ireturn (ev_dt dt_Order_says_0 30 rfl) rfl rfl kk
  · refine ev_ic3 (ev_dt dt_Order_says_0 13 rfl) ?_
    rw [hs, so, if_pos h1] at kk
    exact ev_ireturn (ev_dt dt_Order_says_0 14 rfl) rfl rfl kk
theorem t_Order_says_7 {N : nod} {zs : Nat → Nat} {cs : Nat → Int32} {ad : Nat → Nat} {i : Nat} {u v : Nat} {U V : Nat → Int32} (hK : nK N i = 4) (hcl : nC N i < 4) (ho : h (ad i) = some (oB 7 [.ref (ad i + 1), .int (nI (nC N i)), .int (nI 4), .int (nI i), .int (nI (zs i)), .int (cs i)])) (hy : h (ad i + 1) = some (iA E 10 (nY N i))) (hu : h u = some (iA E 4 U)) (hv : h v = some (iA E 4 V)) (kk : Q (.returned (some (.int (nI (say N U V i).val)))) h sz k n) : Ev E m_Order_says (d + 3) 0 [some (.ref (ad i)), some (.ref u), some (.ref v), none, none] [] h sz k n Q := by
  have hs : say N U V i = so N i (U (nC N i)) (V (nC N i)) := say_o (by omega)
  refine ev_aload_1 (ev_dt dt_Order_says_0 0 rfl) ?_
  refine ev_aload_0 (ev_dt dt_Order_says_0 1 rfl) ?_
  refine ev_get (ev_dt dt_Order_says_0 2 rfl) g_Order_9_7 ho rfl ?_
  refine ev_iald (ev_dt dt_Order_says_0 3 rfl) hu (by omega) (by decide) rfl ?_
  refine ev_istore_3 (ev_dt dt_Order_says_0 4 rfl) (by decide) rfl ?_
  refine ev_aload_2 (ev_dt dt_Order_says_0 5 rfl) ?_
  refine ev_aload_0 (ev_dt dt_Order_says_0 6 rfl) ?_
  refine ev_get (ev_dt dt_Order_says_0 7 rfl) g_Order_9_7 ho rfl ?_
  refine ev_iald (ev_dt dt_Order_says_0 8 rfl) hv (by omega) (by decide) rfl ?_
  refine ev_istore_4 (ev_dt dt_Order_says_0 9 rfl) (by decide) rfl ?_
  refine ev_iload_3 (ev_dt dt_Order_says_0 10 rfl) ?_
  refine ev_iload_4 (ev_dt dt_Order_says_0 11 rfl) ?_
  refine ev_icmp_ne (tgt := 23) (ev_dt dt_Order_says_0 12 rfl) (by decide) (fun h1 => ?_) (fun h1 => ?_)
  · refine ev_aload_0 (ev_dt dt_Order_says_0 15 rfl) ?_
    refine ev_iload_3 (ev_dt dt_Order_says_0 16 rfl) ?_
    refine ev_iload_4 (ev_dt dt_Order_says_0 17 rfl) ?_
    refine ev_callU (ev_dt dt_Order_says_0 18 rfl) u_Order_15_7 ho [.int (U (nC N i)), .int (V (nC N i))] rfl np_Layers_prefers rfl (ev_lk_of (j := 2) rfl rfl) (t_prefers_7 hK ho hy (fun hx => ev_r1 ?_) (fun hx => ev_r1 ?_))
    · refine ev_if_eqF (tgt := 35) (ev_dt dt_Order_says_0 19 rfl) (by decide) z10 ?_
      refine ev_ic1 (ev_dt dt_Order_says_0 20 rfl) ?_
      rw [hs, so, if_neg h1, if_pos hx] at kk
      exact ev_ireturn (ev_dt dt_Order_says_0 21 rfl) rfl rfl kk
    · refine ev_if_eqT (tgt := 35) (ev_dt dt_Order_says_0 19 rfl) (by decide) z00 ?_
      refine ev_aload_0 (ev_dt dt_Order_says_0 22 rfl) ?_
      refine ev_iload_4 (ev_dt dt_Order_says_0 23 rfl) ?_
      refine ev_iload_3 (ev_dt dt_Order_says_0 24 rfl) ?_
      refine ev_callU (ev_dt dt_Order_says_0 25 rfl) u_Order_15_7 ho [.int (V (nC N i)), .int (U (nC N i))] rfl np_Layers_prefers rfl (ev_lk_of (j := 2) rfl rfl) (t_prefers_7 hK ho hy (fun hx2 => ev_r1 ?_) (fun hx2 => ev_r1 ?_))
      · refine ev_if_eqF (tgt := 49) (ev_dt dt_Order_says_0 26 rfl) (by decide) z10 ?_
        refine ev_ic2 (ev_dt dt_Order_says_0 27 rfl) ?_
        refine ev_goto (tgt := 50) (ev_dt dt_Order_says_0 28 rfl) (by decide) ?_
        rw [hs, so, if_neg h1, if_neg (by rw [hx]; decide), if_pos hx2] at kk
        exact ev_ireturn (ev_dt dt_Order_says_0 30 rfl) rfl rfl kk
      · refine ev_if_eqT (tgt := 49) (ev_dt dt_Order_says_0 26 rfl) (by decide) z00 ?_
        refine ev_ic0 (ev_dt dt_Order_says_0 29 rfl) ?_
        rw [hs, so, if_neg h1, if_neg (by rw [hx]; decide), if_neg (by rw [hx2]; decide)] at kk
        exact ev_ireturn (ev_dt dt_Order_says_0 30 rfl) rfl rfl kk
  · refine ev_ic3 (ev_dt dt_Order_says_0 13 rfl) ?_
    rw [hs, so, if_pos h1] at kk
    exact ev_ireturn (ev_dt dt_Order_says_0 14 rfl) rfl rfl kk
theorem t_Order_says_8 {N : nod} {zs : Nat → Nat} {cs : Nat → Int32} {ad : Nat → Nat} {i : Nat} {u v : Nat} {U V : Nat → Int32} (hK : nK N i = 5) (hcl : nC N i < 4) (ho : h (ad i) = some (oB 8 [.ref (ad i + 1), .ref (ad i + 2), .int (nI (nC N i)), .int (nI 5), .int (nI i), .int (nI (zs i)), .int (cs i)])) (hr : h (ad i + 2) = some (iA E 10 (nR N i))) (hu : h u = some (iA E 4 U)) (hv : h v = some (iA E 4 V)) (kk : Q (.returned (some (.int (nI (say N U V i).val)))) h sz k n) : Ev E m_Order_says (d + 3) 0 [some (.ref (ad i)), some (.ref u), some (.ref v), none, none] [] h sz k n Q := by
  have hs : say N U V i = so N i (U (nC N i)) (V (nC N i)) := say_o (by omega)
  refine ev_aload_1 (ev_dt dt_Order_says_0 0 rfl) ?_
  refine ev_aload_0 (ev_dt dt_Order_says_0 1 rfl) ?_
  refine ev_get (ev_dt dt_Order_says_0 2 rfl) g_Order_9_8 ho rfl ?_
  refine ev_iald (ev_dt dt_Order_says_0 3 rfl) hu (by omega) (by decide) rfl ?_
  refine ev_istore_3 (ev_dt dt_Order_says_0 4 rfl) (by decide) rfl ?_
  refine ev_aload_2 (ev_dt dt_Order_says_0 5 rfl) ?_
  refine ev_aload_0 (ev_dt dt_Order_says_0 6 rfl) ?_
  refine ev_get (ev_dt dt_Order_says_0 7 rfl) g_Order_9_8 ho rfl ?_
  refine ev_iald (ev_dt dt_Order_says_0 8 rfl) hv (by omega) (by decide) rfl ?_
  refine ev_istore_4 (ev_dt dt_Order_says_0 9 rfl) (by decide) rfl ?_
  refine ev_iload_3 (ev_dt dt_Order_says_0 10 rfl) ?_
  refine ev_iload_4 (ev_dt dt_Order_says_0 11 rfl) ?_
  refine ev_icmp_ne (tgt := 23) (ev_dt dt_Order_says_0 12 rfl) (by decide) (fun h1 => ?_) (fun h1 => ?_)
  · refine ev_aload_0 (ev_dt dt_Order_says_0 15 rfl) ?_
    refine ev_iload_3 (ev_dt dt_Order_says_0 16 rfl) ?_
    refine ev_iload_4 (ev_dt dt_Order_says_0 17 rfl) ?_
    refine ev_callU (ev_dt dt_Order_says_0 18 rfl) u_Order_15_8 ho [.int (U (nC N i)), .int (V (nC N i))] rfl np_Graph_prefers rfl (ev_lk_of (j := 0) rfl rfl) (t_prefers_8 hK ho hr (fun hx => ev_r1 ?_) (fun hx => ev_r1 ?_))
    · refine ev_if_eqF (tgt := 35) (ev_dt dt_Order_says_0 19 rfl) (by decide) z10 ?_
      refine ev_ic1 (ev_dt dt_Order_says_0 20 rfl) ?_
      rw [hs, so, if_neg h1, if_pos hx] at kk
      exact ev_ireturn (ev_dt dt_Order_says_0 21 rfl) rfl rfl kk
    · refine ev_if_eqT (tgt := 35) (ev_dt dt_Order_says_0 19 rfl) (by decide) z00 ?_
      refine ev_aload_0 (ev_dt dt_Order_says_0 22 rfl) ?_
      refine ev_iload_4 (ev_dt dt_Order_says_0 23 rfl) ?_
      refine ev_iload_3 (ev_dt dt_Order_says_0 24 rfl) ?_
      refine ev_callU (ev_dt dt_Order_says_0 25 rfl) u_Order_15_8 ho [.int (V (nC N i)), .int (U (nC N i))] rfl np_Graph_prefers rfl (ev_lk_of (j := 0) rfl rfl) (t_prefers_8 hK ho hr (fun hx2 => ev_r1 ?_) (fun hx2 => ev_r1 ?_))
      · refine ev_if_eqF (tgt := 49) (ev_dt dt_Order_says_0 26 rfl) (by decide) z10 ?_
        refine ev_ic2 (ev_dt dt_Order_says_0 27 rfl) ?_
        refine ev_goto (tgt := 50) (ev_dt dt_Order_says_0 28 rfl) (by decide) ?_
        rw [hs, so, if_neg h1, if_neg (by rw [hx]; decide), if_pos hx2] at kk
        exact ev_ireturn (ev_dt dt_Order_says_0 30 rfl) rfl rfl kk
      · refine ev_if_eqT (tgt := 49) (ev_dt dt_Order_says_0 26 rfl) (by decide) z00 ?_
        refine ev_ic0 (ev_dt dt_Order_says_0 29 rfl) ?_
        rw [hs, so, if_neg h1, if_neg (by rw [hx]; decide), if_neg (by rw [hx2]; decide)] at kk
        exact ev_ireturn (ev_dt dt_Order_says_0 30 rfl) rfl rfl kk
  · refine ev_ic3 (ev_dt dt_Order_says_0 13 rfl) ?_
    rw [hs, so, if_pos h1] at kk
    exact ev_ireturn (ev_dt dt_Order_says_0 14 rfl) rfl rfl kk
theorem fin4 (a : Fin 4) : a = 0 ∨ a = 1 ∨ a = 2 ∨ a = 3 := by revert a; decide
theorem t_Term_changedOver {a : Fin 4} (kk : Q (.returned (some (.int (nI (fl a).val)))) h sz k n) : Ev E m_Term_changedOver d 0 [some (.int (nI a.val))] [] h sz k n Q := by
  obtain rfl | rfl | rfl | rfl := fin4 a
  · refine ev_iload_0 (ev_dt dt_Term_changedOver_0 0 rfl) ?_
    refine ev_ic1 (ev_dt dt_Term_changedOver_0 1 rfl) ?_
    refine ev_icmp_neT (tgt := 7) (ev_dt dt_Term_changedOver_0 2 rfl) (by decide) (by decide +kernel) ?_
    refine ev_iload_0 (ev_dt dt_Term_changedOver_0 5 rfl) ?_
    refine ev_ic2 (ev_dt dt_Term_changedOver_0 6 rfl) ?_
    refine ev_icmp_neT (tgt := 16) (ev_dt dt_Term_changedOver_0 7 rfl) (by decide) (by decide +kernel) ?_
    refine ev_iload_0 (ev_dt dt_Term_changedOver_0 10 rfl) ?_
    exact ev_ireturn (ev_dt dt_Term_changedOver_0 11 rfl) rfl rfl kk
  · refine ev_iload_0 (ev_dt dt_Term_changedOver_0 0 rfl) ?_
    refine ev_ic1 (ev_dt dt_Term_changedOver_0 1 rfl) ?_
    refine ev_icmp_neF (tgt := 7) (ev_dt dt_Term_changedOver_0 2 rfl) (by decide) (by decide +kernel) ?_
    refine ev_ic2 (ev_dt dt_Term_changedOver_0 3 rfl) ?_
    exact ev_ireturn (ev_dt dt_Term_changedOver_0 4 rfl) rfl rfl kk
  · refine ev_iload_0 (ev_dt dt_Term_changedOver_0 0 rfl) ?_
    refine ev_ic1 (ev_dt dt_Term_changedOver_0 1 rfl) ?_
    refine ev_icmp_neT (tgt := 7) (ev_dt dt_Term_changedOver_0 2 rfl) (by decide) (by decide +kernel) ?_
    refine ev_iload_0 (ev_dt dt_Term_changedOver_0 5 rfl) ?_
    refine ev_ic2 (ev_dt dt_Term_changedOver_0 6 rfl) ?_
    refine ev_icmp_neF (tgt := 16) (ev_dt dt_Term_changedOver_0 7 rfl) (by decide) (by decide +kernel) ?_
    refine ev_ic1 (ev_dt dt_Term_changedOver_0 8 rfl) ?_
    refine ev_goto (tgt := 17) (ev_dt dt_Term_changedOver_0 9 rfl) (by decide) ?_
    exact ev_ireturn (ev_dt dt_Term_changedOver_0 11 rfl) rfl rfl kk
  · refine ev_iload_0 (ev_dt dt_Term_changedOver_0 0 rfl) ?_
    refine ev_ic1 (ev_dt dt_Term_changedOver_0 1 rfl) ?_
    refine ev_icmp_neT (tgt := 7) (ev_dt dt_Term_changedOver_0 2 rfl) (by decide) (by decide +kernel) ?_
    refine ev_iload_0 (ev_dt dt_Term_changedOver_0 5 rfl) ?_
    refine ev_ic2 (ev_dt dt_Term_changedOver_0 6 rfl) ?_
    refine ev_icmp_neT (tgt := 16) (ev_dt dt_Term_changedOver_0 7 rfl) (by decide) (by decide +kernel) ?_
    refine ev_iload_0 (ev_dt dt_Term_changedOver_0 10 rfl) ?_
    exact ev_ireturn (ev_dt dt_Term_changedOver_0 11 rfl) rfl rfl kk
theorem t_Term_paretoOf {a b : Fin 4} (hne : a ≠ b) (kk : Q (.returned (some (.int (nI (jn 6 a b).val)))) h sz k n) : Ev E m_Term_paretoOf d 0 [some (.int (nI a.val)), some (.int (nI b.val))] [] h sz k n Q := by
  obtain rfl | rfl | rfl | rfl := fin4 a
  · obtain rfl | rfl | rfl | rfl := fin4 b
    · exact absurd rfl hne
    · refine ev_iload_0 (ev_dt dt_Term_paretoOf_0 0 rfl) ?_
      refine ev_ic3 (ev_dt dt_Term_paretoOf_0 1 rfl) ?_
      refine ev_icmp_neT (tgt := 7) (ev_dt dt_Term_paretoOf_0 2 rfl) (by decide) (by decide +kernel) ?_
      refine ev_iload_1 (ev_dt dt_Term_paretoOf_0 5 rfl) ?_
      refine ev_ic3 (ev_dt dt_Term_paretoOf_0 6 rfl) ?_
      refine ev_icmp_neT (tgt := 16) (ev_dt dt_Term_paretoOf_0 7 rfl) (by decide) (by decide +kernel) ?_
      refine ev_ic0 (ev_dt dt_Term_paretoOf_0 10 rfl) ?_
      exact ev_ireturn (ev_dt dt_Term_paretoOf_0 11 rfl) rfl rfl kk
    · refine ev_iload_0 (ev_dt dt_Term_paretoOf_0 0 rfl) ?_
      refine ev_ic3 (ev_dt dt_Term_paretoOf_0 1 rfl) ?_
      refine ev_icmp_neT (tgt := 7) (ev_dt dt_Term_paretoOf_0 2 rfl) (by decide) (by decide +kernel) ?_
      refine ev_iload_1 (ev_dt dt_Term_paretoOf_0 5 rfl) ?_
      refine ev_ic3 (ev_dt dt_Term_paretoOf_0 6 rfl) ?_
      refine ev_icmp_neT (tgt := 16) (ev_dt dt_Term_paretoOf_0 7 rfl) (by decide) (by decide +kernel) ?_
      refine ev_ic0 (ev_dt dt_Term_paretoOf_0 10 rfl) ?_
      exact ev_ireturn (ev_dt dt_Term_paretoOf_0 11 rfl) rfl rfl kk
    · refine ev_iload_0 (ev_dt dt_Term_paretoOf_0 0 rfl) ?_
      refine ev_ic3 (ev_dt dt_Term_paretoOf_0 1 rfl) ?_
      refine ev_icmp_neT (tgt := 7) (ev_dt dt_Term_paretoOf_0 2 rfl) (by decide) (by decide +kernel) ?_
      refine ev_iload_1 (ev_dt dt_Term_paretoOf_0 5 rfl) ?_
      refine ev_ic3 (ev_dt dt_Term_paretoOf_0 6 rfl) ?_
      refine ev_icmp_neF (tgt := 16) (ev_dt dt_Term_paretoOf_0 7 rfl) (by decide) (by decide +kernel) ?_
      refine ev_iload_0 (ev_dt dt_Term_paretoOf_0 8 rfl) ?_
      refine ev_goto (tgt := 17) (ev_dt dt_Term_paretoOf_0 9 rfl) (by decide) ?_
      exact ev_ireturn (ev_dt dt_Term_paretoOf_0 11 rfl) rfl rfl kk
  · obtain rfl | rfl | rfl | rfl := fin4 b
    · refine ev_iload_0 (ev_dt dt_Term_paretoOf_0 0 rfl) ?_
      refine ev_ic3 (ev_dt dt_Term_paretoOf_0 1 rfl) ?_
      refine ev_icmp_neT (tgt := 7) (ev_dt dt_Term_paretoOf_0 2 rfl) (by decide) (by decide +kernel) ?_
      refine ev_iload_1 (ev_dt dt_Term_paretoOf_0 5 rfl) ?_
      refine ev_ic3 (ev_dt dt_Term_paretoOf_0 6 rfl) ?_
      refine ev_icmp_neT (tgt := 16) (ev_dt dt_Term_paretoOf_0 7 rfl) (by decide) (by decide +kernel) ?_
      refine ev_ic0 (ev_dt dt_Term_paretoOf_0 10 rfl) ?_
      exact ev_ireturn (ev_dt dt_Term_paretoOf_0 11 rfl) rfl rfl kk
    · exact absurd rfl hne
    · refine ev_iload_0 (ev_dt dt_Term_paretoOf_0 0 rfl) ?_
      refine ev_ic3 (ev_dt dt_Term_paretoOf_0 1 rfl) ?_
      refine ev_icmp_neT (tgt := 7) (ev_dt dt_Term_paretoOf_0 2 rfl) (by decide) (by decide +kernel) ?_
      refine ev_iload_1 (ev_dt dt_Term_paretoOf_0 5 rfl) ?_
      refine ev_ic3 (ev_dt dt_Term_paretoOf_0 6 rfl) ?_
      refine ev_icmp_neT (tgt := 16) (ev_dt dt_Term_paretoOf_0 7 rfl) (by decide) (by decide +kernel) ?_
      refine ev_ic0 (ev_dt dt_Term_paretoOf_0 10 rfl) ?_
      exact ev_ireturn (ev_dt dt_Term_paretoOf_0 11 rfl) rfl rfl kk
    · refine ev_iload_0 (ev_dt dt_Term_paretoOf_0 0 rfl) ?_
      refine ev_ic3 (ev_dt dt_Term_paretoOf_0 1 rfl) ?_
      refine ev_icmp_neT (tgt := 7) (ev_dt dt_Term_paretoOf_0 2 rfl) (by decide) (by decide +kernel) ?_
      refine ev_iload_1 (ev_dt dt_Term_paretoOf_0 5 rfl) ?_
      refine ev_ic3 (ev_dt dt_Term_paretoOf_0 6 rfl) ?_
      refine ev_icmp_neF (tgt := 16) (ev_dt dt_Term_paretoOf_0 7 rfl) (by decide) (by decide +kernel) ?_
      refine ev_iload_0 (ev_dt dt_Term_paretoOf_0 8 rfl) ?_
      refine ev_goto (tgt := 17) (ev_dt dt_Term_paretoOf_0 9 rfl) (by decide) ?_
      exact ev_ireturn (ev_dt dt_Term_paretoOf_0 11 rfl) rfl rfl kk
  · obtain rfl | rfl | rfl | rfl := fin4 b
    · refine ev_iload_0 (ev_dt dt_Term_paretoOf_0 0 rfl) ?_
      refine ev_ic3 (ev_dt dt_Term_paretoOf_0 1 rfl) ?_
      refine ev_icmp_neT (tgt := 7) (ev_dt dt_Term_paretoOf_0 2 rfl) (by decide) (by decide +kernel) ?_
      refine ev_iload_1 (ev_dt dt_Term_paretoOf_0 5 rfl) ?_
      refine ev_ic3 (ev_dt dt_Term_paretoOf_0 6 rfl) ?_
      refine ev_icmp_neT (tgt := 16) (ev_dt dt_Term_paretoOf_0 7 rfl) (by decide) (by decide +kernel) ?_
      refine ev_ic0 (ev_dt dt_Term_paretoOf_0 10 rfl) ?_
      exact ev_ireturn (ev_dt dt_Term_paretoOf_0 11 rfl) rfl rfl kk
    · refine ev_iload_0 (ev_dt dt_Term_paretoOf_0 0 rfl) ?_
      refine ev_ic3 (ev_dt dt_Term_paretoOf_0 1 rfl) ?_
      refine ev_icmp_neT (tgt := 7) (ev_dt dt_Term_paretoOf_0 2 rfl) (by decide) (by decide +kernel) ?_
      refine ev_iload_1 (ev_dt dt_Term_paretoOf_0 5 rfl) ?_
      refine ev_ic3 (ev_dt dt_Term_paretoOf_0 6 rfl) ?_
      refine ev_icmp_neT (tgt := 16) (ev_dt dt_Term_paretoOf_0 7 rfl) (by decide) (by decide +kernel) ?_
      refine ev_ic0 (ev_dt dt_Term_paretoOf_0 10 rfl) ?_
      exact ev_ireturn (ev_dt dt_Term_paretoOf_0 11 rfl) rfl rfl kk
    · exact absurd rfl hne
    · refine ev_iload_0 (ev_dt dt_Term_paretoOf_0 0 rfl) ?_
      refine ev_ic3 (ev_dt dt_Term_paretoOf_0 1 rfl) ?_
      refine ev_icmp_neT (tgt := 7) (ev_dt dt_Term_paretoOf_0 2 rfl) (by decide) (by decide +kernel) ?_
      refine ev_iload_1 (ev_dt dt_Term_paretoOf_0 5 rfl) ?_
      refine ev_ic3 (ev_dt dt_Term_paretoOf_0 6 rfl) ?_
      refine ev_icmp_neF (tgt := 16) (ev_dt dt_Term_paretoOf_0 7 rfl) (by decide) (by decide +kernel) ?_
      refine ev_iload_0 (ev_dt dt_Term_paretoOf_0 8 rfl) ?_
      refine ev_goto (tgt := 17) (ev_dt dt_Term_paretoOf_0 9 rfl) (by decide) ?_
      exact ev_ireturn (ev_dt dt_Term_paretoOf_0 11 rfl) rfl rfl kk
  · obtain rfl | rfl | rfl | rfl := fin4 b
    · refine ev_iload_0 (ev_dt dt_Term_paretoOf_0 0 rfl) ?_
      refine ev_ic3 (ev_dt dt_Term_paretoOf_0 1 rfl) ?_
      refine ev_icmp_neF (tgt := 7) (ev_dt dt_Term_paretoOf_0 2 rfl) (by decide) (by decide +kernel) ?_
      refine ev_iload_1 (ev_dt dt_Term_paretoOf_0 3 rfl) ?_
      exact ev_ireturn (ev_dt dt_Term_paretoOf_0 4 rfl) rfl rfl kk
    · refine ev_iload_0 (ev_dt dt_Term_paretoOf_0 0 rfl) ?_
      refine ev_ic3 (ev_dt dt_Term_paretoOf_0 1 rfl) ?_
      refine ev_icmp_neF (tgt := 7) (ev_dt dt_Term_paretoOf_0 2 rfl) (by decide) (by decide +kernel) ?_
      refine ev_iload_1 (ev_dt dt_Term_paretoOf_0 3 rfl) ?_
      exact ev_ireturn (ev_dt dt_Term_paretoOf_0 4 rfl) rfl rfl kk
    · refine ev_iload_0 (ev_dt dt_Term_paretoOf_0 0 rfl) ?_
      refine ev_ic3 (ev_dt dt_Term_paretoOf_0 1 rfl) ?_
      refine ev_icmp_neF (tgt := 7) (ev_dt dt_Term_paretoOf_0 2 rfl) (by decide) (by decide +kernel) ?_
      refine ev_iload_1 (ev_dt dt_Term_paretoOf_0 3 rfl) ?_
      exact ev_ireturn (ev_dt dt_Term_paretoOf_0 4 rfl) rfl rfl kk
    · exact absurd rfl hne
def sx : MethodName := ⟨"PreferTable$Node", "says", "([I[I)I"⟩
/-- a call of says at a node -/
theorem ev_saysG {M : ev_M} {pc pc' idx i u v : Nat} {ls : List (Option Value)} {rest : List Value} {U V : Nat → Int32} {N : nod} {ed : Nat → Nat → Int32} {zs : Nat → Nat} {cs : Nat → Int32} {ad : Nat → Nat} (hd : ev_d M pc (.invokevirtual idx) 3 pc')
    (w6 : ev_wU M.1.cls idx 6 sx m_Order_says) (w7 : ev_wU M.1.cls idx 7 sx m_Order_says) (w8 : ev_wU M.1.cls idx 8 sx m_Order_says) (w9 : ev_wU M.1.cls idx 9 sx m_Term_says) (hN : NdAt E N ed zs cs ad i h) (hroom : Nat.ble ((rest.map fun v => v.category).sum + 5 + 11) 64 = true)
    (ih : ∀ Q', Q' (.returned (some (.int (nI (say N U V i).val)))) h sz k n → Ev E (ndM N i) d 0 [some (.ref (ad i)), some (.ref u), some (.ref v), none, none] [] h sz k n Q')
    (kk : Ev E M (d + 1) pc' ls (.int (nI (say N U V i).val) :: rest) h sz k n Q) : Ev E M (d + 1) pc ls (.ref v :: .ref u :: .ref (ad i) :: rest) h sz k n Q := by
  rcases hN with ⟨hk, hc, ho⟩ | ⟨hk, hc, ho, -⟩ | ⟨hk, hc, ho, -⟩ | ⟨hk, -, -, -, ho⟩
  · rw [show ndM N i = m_Order_says from if_pos (by omega)] at ih
    exact ev_callU hd w6 ho [.ref u, .ref v] rfl np_Order_says hroom (ev_lk_of (j := 2) rfl rfl) (ih _ (ev_r1 kk))
  · rw [show ndM N i = m_Order_says from if_pos (by omega)] at ih
    exact ev_callU hd w7 ho [.ref u, .ref v] rfl np_Order_says hroom (ev_lk_of (j := 2) rfl rfl) (ih _ (ev_r1 kk))
  · rw [show ndM N i = m_Order_says from if_pos (by omega)] at ih
    exact ev_callU hd w8 ho [.ref u, .ref v] rfl np_Order_says hroom (ev_lk_of (j := 2) rfl rfl) (ih _ (ev_r1 kk))
  · rw [show ndM N i = m_Term_says from if_neg (by omega)] at ih
    exact ev_callU hd w9 ho [.ref u, .ref v] rfl np_Term_says hroom (ev_lk_of (j := 2) rfl rfl) (ih _ (ev_r1 kk))
theorem nv {a b : Fin 4} : nI a.val = nI b.val ↔ a = b := by
  rw [nI_eq (by omega) (by omega)]
  exact ⟨fun e => Fin.ext e, fun e => by rw [e]⟩
theorem t_Term_says {N : nod} {ed : Nat → Nat → Int32} {zs : Nat → Nat} {cs : Nat → Int32} {ad : Nat → Nat} {i : Nat} {u v : Nat} {U V : Nat → Int32} (h6 : 6 ≤ nK N i) (h9 : nK N i ≤ 9) (hl : nL N i < i) (hq : nQ N i < i) (ho : h (ad i) = some (oB 9 [.ref (ad (nL N i)), .ref (ad (nQ N i)), .int (nI (nK N i)), .int (nI i), .int (nI (zs i)), .int (cs i)])) (hP : NdAt E N ed zs cs ad (nL N i) h) (hQ : NdAt E N ed zs cs ad (nQ N i) h) (ihp : ∀ Q', Q' (.returned (some (.int (nI (say N U V (nL N i)).val)))) h sz k n → Ev E (ndM N (nL N i)) d 0 [some (.ref (ad (nL N i))), some (.ref u), some (.ref v), none, none] [] h sz k n Q') (ihq : ∀ Q', Q' (.returned (some (.int (nI (say N U V (nQ N i)).val)))) h sz k n → Ev E (ndM N (nQ N i)) d 0 [some (.ref (ad (nQ N i))), some (.ref u), some (.ref v), none, none] [] h sz k n Q') (kk : Q (.returned (some (.int (nI (say N U V i).val)))) h sz k n) : Ev E m_Term_says (d + 1) 0 [some (.ref (ad i)), some (.ref u), some (.ref v), none, none] [] h sz k n Q := by
  have hs : say N U V i = jn (nK N i) (say N U V (nL N i)) (say N U V (nQ N i)) := say_t (by omega) ⟨hl, hq⟩
  obtain hk | hk | hk | hk : nK N i = 6 ∨ nK N i = 7 ∨ nK N i = 8 ∨ nK N i = 9 := by omega
  · refine ev_aload_0 (ev_dt dt_Term_says_0 0 rfl) ?_
    refine ev_get (ev_dt dt_Term_says_0 1 rfl) g_Term_19_9 ho rfl ?_
    refine ev_aload_1 (ev_dt dt_Term_says_0 2 rfl) ?_
    refine ev_aload_2 (ev_dt dt_Term_says_0 3 rfl) ?_
    refine ev_saysG (ev_dt dt_Term_says_0 4 rfl) u_Term_29_6 u_Term_29_7 u_Term_29_8 u_Term_29_9 hP rfl ihp ?_
    refine ev_istore_3 (ev_dt dt_Term_says_0 5 rfl) (by decide) rfl ?_
    refine ev_aload_0 (ev_dt dt_Term_says_0 6 rfl) ?_
    refine ev_get (ev_dt dt_Term_says_0 7 rfl) g_Term_33_9 ho rfl ?_
    refine ev_bipush (ev_dt dt_Term_says_0 8 rfl) bi_9 ?_
    refine ev_icmp_neT (tgt := 24) (ev_dt dt_Term_says_0 9 rfl) (by decide) (by rw [hk]; decide +kernel) ?_
    refine ev_aload_0 (ev_dt dt_Term_says_0 13 rfl) ?_
    refine ev_get (ev_dt dt_Term_says_0 14 rfl) g_Term_33_9 ho rfl ?_
    refine ev_bipush (ev_dt dt_Term_says_0 15 rfl) bi_7 ?_
    refine ev_icmp_neT (tgt := 52) (ev_dt dt_Term_says_0 16 rfl) (by decide) (by rw [hk]; decide +kernel) ?_
    refine ev_aload_0 (ev_dt dt_Term_says_0 28 rfl) ?_
    refine ev_get (ev_dt dt_Term_says_0 29 rfl) g_Term_23_9 ho rfl ?_
    refine ev_aload_1 (ev_dt dt_Term_says_0 30 rfl) ?_
    refine ev_aload_2 (ev_dt dt_Term_says_0 31 rfl) ?_
    refine ev_saysG (ev_dt dt_Term_says_0 32 rfl) u_Term_29_6 u_Term_29_7 u_Term_29_8 u_Term_29_9 hQ rfl ihq ?_
    refine ev_istore_4 (ev_dt dt_Term_says_0 33 rfl) (by decide) rfl ?_
    refine ev_iload_3 (ev_dt dt_Term_says_0 34 rfl) ?_
    refine ev_iload_4 (ev_dt dt_Term_says_0 35 rfl) ?_
    refine ev_icmp_ne (tgt := 71) (ev_dt dt_Term_says_0 36 rfl) (by decide) (fun h1 => ?_) (fun h1 => ?_)
    · have h3 : say N U V (nL N i) ≠ say N U V (nQ N i) := fun e => h1 (by rw [e])
      refine ev_aload_0 (ev_dt dt_Term_says_0 39 rfl) ?_
      refine ev_get (ev_dt dt_Term_says_0 40 rfl) g_Term_33_9 ho rfl ?_
      refine ev_bipush (ev_dt dt_Term_says_0 41 rfl) bi_6 ?_
      refine ev_icmp_neF (tgt := 89) (ev_dt dt_Term_says_0 42 rfl) (by decide) (by rw [hk]) ?_
      refine ev_iload_3 (ev_dt dt_Term_says_0 43 rfl) ?_
      refine ev_iload_4 (ev_dt dt_Term_says_0 44 rfl) ?_
      refine ev_callS (ev_dt dt_Term_says_0 45 rfl) s_Term_40 [.int (nI (say N U V (nL N i)).val), .int (nI (say N U V (nQ N i)).val)] rfl np_Term_paretoOf rfl (ev_lk_of (j := 0) rfl rfl) (t_Term_paretoOf (a := say N U V (nL N i)) (b := say N U V (nQ N i)) h3 (ev_r1 ?_))
      refine ev_goto (tgt := 90) (ev_dt dt_Term_says_0 46 rfl) (by decide) ?_
      rw [hs, hk] at kk
      exact ev_ireturn (ev_dt dt_Term_says_0 48 rfl) rfl rfl kk
    · have h3 : say N U V (nL N i) = say N U V (nQ N i) := nv.mp h1
      refine ev_iload_3 (ev_dt dt_Term_says_0 37 rfl) ?_
      rw [hs, hk, show jn 6 (say N U V (nL N i)) (say N U V (nQ N i)) = say N U V (nL N i) by simp [jn, h3]] at kk
      exact ev_ireturn (ev_dt dt_Term_says_0 38 rfl) rfl rfl kk
  · refine ev_aload_0 (ev_dt dt_Term_says_0 0 rfl) ?_
    refine ev_get (ev_dt dt_Term_says_0 1 rfl) g_Term_19_9 ho rfl ?_
    refine ev_aload_1 (ev_dt dt_Term_says_0 2 rfl) ?_
    refine ev_aload_2 (ev_dt dt_Term_says_0 3 rfl) ?_
    refine ev_saysG (ev_dt dt_Term_says_0 4 rfl) u_Term_29_6 u_Term_29_7 u_Term_29_8 u_Term_29_9 hP rfl ihp ?_
    refine ev_istore_3 (ev_dt dt_Term_says_0 5 rfl) (by decide) rfl ?_
    refine ev_aload_0 (ev_dt dt_Term_says_0 6 rfl) ?_
    refine ev_get (ev_dt dt_Term_says_0 7 rfl) g_Term_33_9 ho rfl ?_
    refine ev_bipush (ev_dt dt_Term_says_0 8 rfl) bi_9 ?_
    refine ev_icmp_neT (tgt := 24) (ev_dt dt_Term_says_0 9 rfl) (by decide) (by rw [hk]; decide +kernel) ?_
    refine ev_aload_0 (ev_dt dt_Term_says_0 13 rfl) ?_
    refine ev_get (ev_dt dt_Term_says_0 14 rfl) g_Term_33_9 ho rfl ?_
    refine ev_bipush (ev_dt dt_Term_says_0 15 rfl) bi_7 ?_
    refine ev_icmp_neF (tgt := 52) (ev_dt dt_Term_says_0 16 rfl) (by decide) (by rw [hk]) ?_
    refine ev_iload_3 (ev_dt dt_Term_says_0 17 rfl) ?_
    refine ev_ic3 (ev_dt dt_Term_says_0 18 rfl) ?_
    refine ev_icmp_ne (tgt := 50) (ev_dt dt_Term_says_0 19 rfl) (by decide) (fun h1 => ?_) (fun h1 => ?_)
    · refine ev_iload_3 (ev_dt dt_Term_says_0 26 rfl) ?_
      have h3 : say N U V (nL N i) ≠ 3 := fun e => h1 (by rw [e]; rfl)
      rw [hs, hk, show jn 7 (say N U V (nL N i)) (say N U V (nQ N i)) = say N U V (nL N i) by simp [jn, h3]] at kk
      exact ev_ireturn (ev_dt dt_Term_says_0 27 rfl) rfl rfl kk
    · have h3 : say N U V (nL N i) = 3 := nv.mp h1
      refine ev_aload_0 (ev_dt dt_Term_says_0 20 rfl) ?_
      refine ev_get (ev_dt dt_Term_says_0 21 rfl) g_Term_23_9 ho rfl ?_
      refine ev_aload_1 (ev_dt dt_Term_says_0 22 rfl) ?_
      refine ev_aload_2 (ev_dt dt_Term_says_0 23 rfl) ?_
      refine ev_saysG (ev_dt dt_Term_says_0 24 rfl) u_Term_29_6 u_Term_29_7 u_Term_29_8 u_Term_29_9 hQ rfl ihq ?_
      refine ev_goto (tgt := 51) (ev_dt dt_Term_says_0 25 rfl) (by decide) ?_
      rw [hs, hk, show jn 7 (say N U V (nL N i)) (say N U V (nQ N i)) = say N U V (nQ N i) by simp [jn, h3]] at kk
      exact ev_ireturn (ev_dt dt_Term_says_0 27 rfl) rfl rfl kk
  · refine ev_aload_0 (ev_dt dt_Term_says_0 0 rfl) ?_
    refine ev_get (ev_dt dt_Term_says_0 1 rfl) g_Term_19_9 ho rfl ?_
    refine ev_aload_1 (ev_dt dt_Term_says_0 2 rfl) ?_
    refine ev_aload_2 (ev_dt dt_Term_says_0 3 rfl) ?_
    refine ev_saysG (ev_dt dt_Term_says_0 4 rfl) u_Term_29_6 u_Term_29_7 u_Term_29_8 u_Term_29_9 hP rfl ihp ?_
    refine ev_istore_3 (ev_dt dt_Term_says_0 5 rfl) (by decide) rfl ?_
    refine ev_aload_0 (ev_dt dt_Term_says_0 6 rfl) ?_
    refine ev_get (ev_dt dt_Term_says_0 7 rfl) g_Term_33_9 ho rfl ?_
    refine ev_bipush (ev_dt dt_Term_says_0 8 rfl) bi_9 ?_
    refine ev_icmp_neT (tgt := 24) (ev_dt dt_Term_says_0 9 rfl) (by decide) (by rw [hk]; decide +kernel) ?_
    refine ev_aload_0 (ev_dt dt_Term_says_0 13 rfl) ?_
    refine ev_get (ev_dt dt_Term_says_0 14 rfl) g_Term_33_9 ho rfl ?_
    refine ev_bipush (ev_dt dt_Term_says_0 15 rfl) bi_7 ?_
    refine ev_icmp_neT (tgt := 52) (ev_dt dt_Term_says_0 16 rfl) (by decide) (by rw [hk]; decide +kernel) ?_
    refine ev_aload_0 (ev_dt dt_Term_says_0 28 rfl) ?_
    refine ev_get (ev_dt dt_Term_says_0 29 rfl) g_Term_23_9 ho rfl ?_
    refine ev_aload_1 (ev_dt dt_Term_says_0 30 rfl) ?_
    refine ev_aload_2 (ev_dt dt_Term_says_0 31 rfl) ?_
    refine ev_saysG (ev_dt dt_Term_says_0 32 rfl) u_Term_29_6 u_Term_29_7 u_Term_29_8 u_Term_29_9 hQ rfl ihq ?_
    refine ev_istore_4 (ev_dt dt_Term_says_0 33 rfl) (by decide) rfl ?_
    refine ev_iload_3 (ev_dt dt_Term_says_0 34 rfl) ?_
    refine ev_iload_4 (ev_dt dt_Term_says_0 35 rfl) ?_
    refine ev_icmp_ne (tgt := 71) (ev_dt dt_Term_says_0 36 rfl) (by decide) (fun h1 => ?_) (fun h1 => ?_)
    · have h3 : say N U V (nL N i) ≠ say N U V (nQ N i) := fun e => h1 (by rw [e])
      refine ev_aload_0 (ev_dt dt_Term_says_0 39 rfl) ?_
      refine ev_get (ev_dt dt_Term_says_0 40 rfl) g_Term_33_9 ho rfl ?_
      refine ev_bipush (ev_dt dt_Term_says_0 41 rfl) bi_6 ?_
      refine ev_icmp_neT (tgt := 89) (ev_dt dt_Term_says_0 42 rfl) (by decide) (by rw [hk]; decide +kernel) ?_
      refine ev_ic0 (ev_dt dt_Term_says_0 47 rfl) ?_
      rw [hs, hk, show jn 8 (say N U V (nL N i)) (say N U V (nQ N i)) = 0 by simp [jn, h3]] at kk
      exact ev_ireturn (ev_dt dt_Term_says_0 48 rfl) rfl rfl kk
    · have h3 : say N U V (nL N i) = say N U V (nQ N i) := nv.mp h1
      refine ev_iload_3 (ev_dt dt_Term_says_0 37 rfl) ?_
      rw [hs, hk, show jn 8 (say N U V (nL N i)) (say N U V (nQ N i)) = say N U V (nL N i) by simp [jn, h3]] at kk
      exact ev_ireturn (ev_dt dt_Term_says_0 38 rfl) rfl rfl kk
  · refine ev_aload_0 (ev_dt dt_Term_says_0 0 rfl) ?_
    refine ev_get (ev_dt dt_Term_says_0 1 rfl) g_Term_19_9 ho rfl ?_
    refine ev_aload_1 (ev_dt dt_Term_says_0 2 rfl) ?_
    refine ev_aload_2 (ev_dt dt_Term_says_0 3 rfl) ?_
    refine ev_saysG (ev_dt dt_Term_says_0 4 rfl) u_Term_29_6 u_Term_29_7 u_Term_29_8 u_Term_29_9 hP rfl ihp ?_
    refine ev_istore_3 (ev_dt dt_Term_says_0 5 rfl) (by decide) rfl ?_
    refine ev_aload_0 (ev_dt dt_Term_says_0 6 rfl) ?_
    refine ev_get (ev_dt dt_Term_says_0 7 rfl) g_Term_33_9 ho rfl ?_
    refine ev_bipush (ev_dt dt_Term_says_0 8 rfl) bi_9 ?_
    refine ev_icmp_neF (tgt := 24) (ev_dt dt_Term_says_0 9 rfl) (by decide) (by rw [hk]) ?_
    refine ev_iload_3 (ev_dt dt_Term_says_0 10 rfl) ?_
    refine ev_callS (ev_dt dt_Term_says_0 11 rfl) s_Term_36 [.int (nI (say N U V (nL N i)).val)] rfl np_Term_changedOver rfl (ev_lk_of (j := 0) rfl rfl) (t_Term_changedOver (a := say N U V (nL N i)) (ev_r1 ?_))
    rw [hs, hk, show jn 9 (say N U V (nL N i)) (say N U V (nQ N i)) = fl (say N U V (nL N i)) from rfl] at kk
    exact ev_ireturn (ev_dt dt_Term_says_0 12 rfl) rfl rfl kk
/-- what a node says -/
theorem t_says {N : nod} {ed : Nat → Nat → Int32} {zs : Nat → Nat} {cs : Nat → Int32} {ad : Nat → Nat} {c u v : Nat} {U V : Nat → Int32} (hN : ∀ i, i < c → NdAt E N ed zs cs ad i h) (hu : h u = some (iA E 4 U)) (hv : h v = some (iA E 4 V)) :
    ∀ i, i < c → ∀ d, i + 5 ≤ d → ∀ Q : ev_Q, Q (.returned (some (.int (nI (say N U V i).val)))) h sz k n → Ev E (ndM N i) d 0 [some (.ref (ad i)), some (.ref u), some (.ref v), none, none] [] h sz k n Q := by
  intro i
  induction i using Nat.strongRecOn with
  | _ i ih =>
    intro hi d hd Q kk
    rcases hN i hi with ⟨hk, hc, ho⟩ | ⟨hk, hc, ho, hy⟩ | ⟨hk, hc, ho, he, hr⟩ | ⟨h6, h9, hl, hq, ho⟩
    · rw [show ndM N i = m_Order_says from if_pos (by omega)]
      obtain ⟨d, rfl⟩ : ∃ e, d = e + 3 := ⟨d - 3, by omega⟩
      exact t_Order_says_6 hk hc ho hu hv kk
    · rw [show ndM N i = m_Order_says from if_pos (by omega)]
      obtain ⟨d, rfl⟩ : ∃ e, d = e + 3 := ⟨d - 3, by omega⟩
      exact t_Order_says_7 hk hc ho hy hu hv kk
    · rw [show ndM N i = m_Order_says from if_pos (by omega)]
      obtain ⟨d, rfl⟩ : ∃ e, d = e + 3 := ⟨d - 3, by omega⟩
      exact t_Order_says_8 hk hc ho hr hu hv kk
    · rw [show ndM N i = m_Term_says from if_neg (by omega)]
      obtain ⟨d, rfl⟩ : ∃ e, d = e + 1 := ⟨d - 1, by omega⟩
      exact t_Term_says h6 h9 hl hq ho (hN _ (by omega)) (hN _ (by omega)) (ih (nL N i) hl (by omega) d (by omega)) (ih (nQ N i) hq (by omega) d (by omega)) kk
end C3
end
section
/-! The contest is held (written by gen_c4.py over walk.py). -/
theorem NdAt.kept {E : ev_E} {N : nod} {ed : Nat → Nat → Int32} {zs : Nat → Nat} {cs : Nat → Int32} {ad : Nat → Nat} {i : Nat} {h h' : ev_h} (hN : NdAt E N ed zs cs ad i h) (hq : ∀ z, ad i ≤ z → z < ad i + 3 → h' z = h z) : NdAt E N ed zs cs ad i h' := by
  have e0 := hq (ad i) (by omega) (by omega)
  have e1 := hq (ad i + 1) (by omega) (by omega)
  have e2 := hq (ad i + 2) (by omega) (by omega)
  rcases hN with ⟨a, b, c⟩ | ⟨a, b, c, e⟩ | ⟨a, b, c, e, f⟩ | ⟨a, b, c, e, f⟩
  · exact Or.inl ⟨a, b, e0.trans c⟩
  · exact Or.inr (Or.inl ⟨a, b, e0.trans c, e1.trans e⟩)
  · exact Or.inr (Or.inr (Or.inl ⟨a, b, e0.trans c, e1.trans e, e2.trans f⟩))
  · exact Or.inr (Or.inr (Or.inr ⟨a, b, c, e, e0.trans f⟩))
section C4
variable {E : ev_E} {d : Nat} {h : ev_h} {sz k n : Nat} {Q : ev_Q}
theorem t_Contest_letIn {r c m : Nat} {nu : Nat → Int32} {V : Nat → Nat → Int32} {q : Nat} {pm : Int32} {be le : Nat → Int32} {a cc : Nat} {on op th : Nat → Int32} {cn co : Nat → Nat} {ps : Nat → Bool} (hc : c ≤ 24) (hR : RwAt E r c m nu V h) (hC : CtAt E q pm be le h) (hcc : cc ≤ 4) (hL : CdAt E a cc on op th h) (hon : ∀ i, i < cc → on i = nI (cn i) ∧ cn i < 4) (hop : ∀ i, i < cc → op i = nI (co i) ∧ co i < 6) (hps : ∀ i, i < c → (ps i = true ↔ okC cc cn co th (V i))) (hrq : r + 27 ≤ q) (haq : a + 4 ≤ q ∨ q + 3 ≤ a) (kk : ∀ h' pm' be', CtAt E q pm' be' le h' → fI q 3 h h' → (∀ i, i < 32 → bt pm' i = decide (i < c ∧ ps i = true)) → (∀ i, i < c → be' i = nI 0) → Q (.returned none) h' sz k n) : Ev E m_Contest_letIn (d + 2) 0 [some (.ref q), some (.ref r), some (.ref a), none] [] h sz k n Q := by
  have loop : ∀ m' j h' pm' be', j + m' = c → CtAt E q pm' be' le h' → fI q 3 h h' → RwAt E r c m nu V h' → (∀ i, i < 32 → bt pm' i = decide (i < j ∧ ps i = true)) → (∀ i, i < j → be' i = nI 0) → Ev E m_Contest_letIn (d + 2) 7 [some (.ref q), some (.ref r), some (.ref a), some (.int (nI j))] [] h' sz k n Q := by
    intro m'
    induction m' with
    | zero =>
      intro j h' pm' be' hj hC hF hR' hP hB
      refine ev_iload_3 (ev_dt dt_Contest_letIn_0 5 rfl) ?_
      refine ev_aload_1 (ev_dt dt_Contest_letIn_0 6 rfl) ?_
      refine ev_get (ev_dt dt_Contest_letIn_0 7 rfl) g_Contest_26_1 hR'.1 rfl ?_
      refine ev_icmp_geT (tgt := 53) (ev_dt dt_Contest_letIn_0 8 rfl) (by decide) (nI_le (by omega) (by omega)) ?_
      obtain rfl : j = c := by omega
      exact ev_return (ev_dt dt_Contest_letIn_0 31 rfl) rfl (kk h' pm' be' hC hF hP hB)
    | succ m' ih =>
      intro j h' pm' be' hj hC hF hR' hP hB
      refine ev_iload_3 (ev_dt dt_Contest_letIn_0 5 rfl) ?_
      refine ev_aload_1 (ev_dt dt_Contest_letIn_0 6 rfl) ?_
      refine ev_get (ev_dt dt_Contest_letIn_0 7 rfl) g_Contest_26_1 hR'.1 rfl ?_
      refine ev_icmp_geF (tgt := 53) (ev_dt dt_Contest_letIn_0 8 rfl) (by decide) (nI_ge (by omega) (by omega)) ?_
      refine ev_aload_0 (ev_dt dt_Contest_letIn_0 9 rfl) ?_
      refine ev_get (ev_dt dt_Contest_letIn_0 10 rfl) g_Contest_9_5 hC.1 rfl ?_
      refine ev_iload_3 (ev_dt dt_Contest_letIn_0 11 rfl) ?_
      refine ev_ic0 (ev_dt dt_Contest_letIn_0 12 rfl) ?_
      refine ev_iast (ev_dt dt_Contest_letIn_0 13 rfl) hC.2.1 (by omega) (by decide) ?_
      obtain ⟨hC1, hF1⟩ := hC.setB (upd be' j (nI 0))
      have hF2 := hF.tr hF1
      have hR1 : RwAt E r c m nu V _ := hR.kept (h' := ev_up h' (q + 1) (iA E 24 (upd be' j (nI 0)))) (fun z h1 h2 => hF2 z (by omega))
      have hL1 : CdAt E a cc on op th _ := hL.kept (h' := ev_up h' (q + 1) (iA E 24 (upd be' j (nI 0)))) (fun z h1 h2 => hF2 z (by omega))
      have hB1 : ∀ i, i < j + 1 → upd be' j (nI 0) i = nI 0 := fun i hi => by
        by_cases e : i = j
        · subst e; exact pk_us
        · rw [pk_un e]; exact hB i (by omega)
      generalize ev_up h' (q + 1) (iA E 24 (upd be' j (nI 0))) = h1 at hC1 hF1 hF2 hR1 hL1 ⊢
      generalize upd be' j (nI 0) = be1 at hC1 hB1
      refine ev_aload_2 (ev_dt dt_Contest_letIn_0 14 rfl) ?_
      refine ev_aload_1 (ev_dt dt_Contest_letIn_0 15 rfl) ?_
      refine ev_get (ev_dt dt_Contest_letIn_0 16 rfl) g_Contest_35_1 hR1.1 rfl ?_
      refine ev_iload_3 (ev_dt dt_Contest_letIn_0 17 rfl) ?_
      refine ev_aald (t := 5) (ev_dt dt_Contest_letIn_0 18 rfl) rfl rfl hR1.2.2.1 (by omega) (by decide) (rw_v (by omega)) ?_
      refine ev_callV (ev_dt dt_Contest_letIn_0 19 rfl) v_Contest_49_3 hL1.1 [.ref (r + 3 + j)] rfl np_Conditions_pass rfl (ev_lk_of (j := 1) rfl rfl) (t_Conditions_pass hcc hL1 (hR1.2.2.2 j (by omega)) hon hop (fun hx => ev_r1 ?_) (fun hx => ev_r1 ?_))
      · refine ev_if_eqF (tgt := 47) (ev_dt dt_Contest_letIn_0 20 rfl) (by decide) z10 ?_
        refine ev_aload_0 (ev_dt dt_Contest_letIn_0 21 rfl) ?_
        refine ev_dup (ev_dt dt_Contest_letIn_0 22 rfl) rfl ?_
        refine ev_get (ev_dt dt_Contest_letIn_0 23 rfl) g_Contest_18_5 hC1.1 rfl ?_
        refine ev_ic1 (ev_dt dt_Contest_letIn_0 24 rfl) ?_
        refine ev_iload_3 (ev_dt dt_Contest_letIn_0 25 rfl) ?_
        refine ev_ishl (ev_dt dt_Contest_letIn_0 26 rfl) rfl ?_
        refine ev_ior (ev_dt dt_Contest_letIn_0 27 rfl) rfl ?_
        refine ev_put [.ref (q + 1), .ref (q + 2), .int (pm' ||| ((nI 1) <<< ((nI j) &&& 31)))] (ev_dt dt_Contest_letIn_0 28 rfl) p_Contest_18_5 hC1.1 rfl rfl rfl rfl ?_
        refine ev_inc1_3 (ev_dt dt_Contest_letIn_0 29 rfl) (by decide) rfl ?_
        refine ev_goto (tgt := 7) (ev_dt dt_Contest_letIn_0 30 rfl) (by decide) ?_
        obtain ⟨hC2, hF3⟩ := hC1.setP (pm' ||| nI 1 <<< (nI j &&& 31))
        exact ih (j + 1) _ _ _ (by omega) hC2 (hF2.tr hF3) (hR1.kept (fun z h1 h2 => hF3 z (by omega))) (fun i hi => by
          rw [b_or, q_sh1 (by omega) hi, hP i hi]
          by_cases e : i = j
          · subst e; simp [(hps i (by omega)).mpr hx]
          · simp only [e, decide_false, Bool.or_false, show (i < j + 1) = (i < j) by apply propext; constructor <;> omega]) hB1
      · refine ev_if_eqT (tgt := 47) (ev_dt dt_Contest_letIn_0 20 rfl) (by decide) z00 ?_
        refine ev_inc1_3 (ev_dt dt_Contest_letIn_0 29 rfl) (by decide) rfl ?_
        refine ev_goto (tgt := 7) (ev_dt dt_Contest_letIn_0 30 rfl) (by decide) ?_
        exact ih (j + 1) _ _ _ (by omega) hC1 hF2 hR1 (fun i hi => by
          rw [hP i hi]
          by_cases e : i = j
          · subst e; have : ps i ≠ true := fun e => hx ((hps i (by omega)).mp e); simp [this]
          · simp only [show (i < j + 1) = (i < j) by apply propext; constructor <;> omega]) hB1
  refine ev_aload_0 (ev_dt dt_Contest_letIn_0 0 rfl) ?_
  refine ev_ic0 (ev_dt dt_Contest_letIn_0 1 rfl) ?_
  refine ev_put [.ref (q + 1), .ref (q + 2), .int (nI 0)] (ev_dt dt_Contest_letIn_0 2 rfl) p_Contest_18_5 hC.1 rfl rfl rfl rfl ?_
  refine ev_ic0 (ev_dt dt_Contest_letIn_0 3 rfl) ?_
  refine ev_istore_3 (ev_dt dt_Contest_letIn_0 4 rfl) (by decide) rfl ?_
  obtain ⟨hC2, hF3⟩ := hC.setP (nI 0)
  exact loop c 0 _ _ _ (by omega) hC2 hF3 (hR.kept (fun z h1 h2 => hF3 z (by omega))) (fun i hi => by rw [q_0]; simp) (fun i hi => absurd hi (Nat.not_lt_zero _))
theorem t_Contest_note {q i j : Nat} {pm : Int32} {be le : Nat → Int32} {v : Fin 4} (hi : i < 24) (hj : j < 24) (hC : CtAt E q pm be le h) (kk : ∀ h' be', CtAt E q pm be' le h' → fI q 3 h h' → be' = (if v = 1 then upd be j (be j ||| nI 1 <<< (nI i &&& 31)) else if v = 2 then upd be i (be i ||| nI 1 <<< (nI j &&& 31)) else be) → Q (.returned none) h' sz k n) : Ev E m_Contest_note d 0 [some (.ref q), some (.int (nI i)), some (.int (nI j)), some (.int (nI v.val))] [] h sz k n Q := by
  obtain rfl | rfl | rfl | rfl := fin4 v
  · refine ev_iload_3 (ev_dt dt_Contest_note_0 0 rfl) ?_
    refine ev_ic1 (ev_dt dt_Contest_note_0 1 rfl) ?_
    refine ev_icmp_neT (tgt := 20) (ev_dt dt_Contest_note_0 2 rfl) (by decide) (by decide +kernel) ?_
    refine ev_iload_3 (ev_dt dt_Contest_note_0 14 rfl) ?_
    refine ev_ic2 (ev_dt dt_Contest_note_0 15 rfl) ?_
    refine ev_icmp_neT (tgt := 37) (ev_dt dt_Contest_note_0 16 rfl) (by decide) (by decide +kernel) ?_
    exact ev_return (ev_dt dt_Contest_note_0 27 rfl) rfl (kk h be hC fI.rf rfl)
  · refine ev_iload_3 (ev_dt dt_Contest_note_0 0 rfl) ?_
    refine ev_ic1 (ev_dt dt_Contest_note_0 1 rfl) ?_
    refine ev_icmp_neF (tgt := 20) (ev_dt dt_Contest_note_0 2 rfl) (by decide) (by decide +kernel) ?_
    refine ev_aload_0 (ev_dt dt_Contest_note_0 3 rfl) ?_
    refine ev_get (ev_dt dt_Contest_note_0 4 rfl) g_Contest_9_5 hC.1 rfl ?_
    refine ev_iload_2 (ev_dt dt_Contest_note_0 5 rfl) ?_
    refine ev_dup2 (ev_dt dt_Contest_note_0 6 rfl) rfl rfl ?_
    refine ev_iald (ev_dt dt_Contest_note_0 7 rfl) hC.2.1 (by omega) (by decide) rfl ?_
    refine ev_ic1 (ev_dt dt_Contest_note_0 8 rfl) ?_
    refine ev_iload_1 (ev_dt dt_Contest_note_0 9 rfl) ?_
    refine ev_ishl (ev_dt dt_Contest_note_0 10 rfl) rfl ?_
    refine ev_ior (ev_dt dt_Contest_note_0 11 rfl) rfl ?_
    refine ev_iast (ev_dt dt_Contest_note_0 12 rfl) hC.2.1 (by omega) (by decide) ?_
    refine ev_goto (tgt := 37) (ev_dt dt_Contest_note_0 13 rfl) (by decide) ?_
    obtain ⟨hC1, hF1⟩ := hC.setB (upd be j (be j ||| nI 1 <<< (nI i &&& 31)))
    exact ev_return (ev_dt dt_Contest_note_0 27 rfl) rfl (kk _ _ hC1 hF1 rfl)
  · refine ev_iload_3 (ev_dt dt_Contest_note_0 0 rfl) ?_
    refine ev_ic1 (ev_dt dt_Contest_note_0 1 rfl) ?_
    refine ev_icmp_neT (tgt := 20) (ev_dt dt_Contest_note_0 2 rfl) (by decide) (by decide +kernel) ?_
    refine ev_iload_3 (ev_dt dt_Contest_note_0 14 rfl) ?_
    refine ev_ic2 (ev_dt dt_Contest_note_0 15 rfl) ?_
    refine ev_icmp_neF (tgt := 37) (ev_dt dt_Contest_note_0 16 rfl) (by decide) (by decide +kernel) ?_
    refine ev_aload_0 (ev_dt dt_Contest_note_0 17 rfl) ?_
    refine ev_get (ev_dt dt_Contest_note_0 18 rfl) g_Contest_9_5 hC.1 rfl ?_
    refine ev_iload_1 (ev_dt dt_Contest_note_0 19 rfl) ?_
    refine ev_dup2 (ev_dt dt_Contest_note_0 20 rfl) rfl rfl ?_
    refine ev_iald (ev_dt dt_Contest_note_0 21 rfl) hC.2.1 (by omega) (by decide) rfl ?_
    refine ev_ic1 (ev_dt dt_Contest_note_0 22 rfl) ?_
    refine ev_iload_2 (ev_dt dt_Contest_note_0 23 rfl) ?_
    refine ev_ishl (ev_dt dt_Contest_note_0 24 rfl) rfl ?_
    refine ev_ior (ev_dt dt_Contest_note_0 25 rfl) rfl ?_
    refine ev_iast (ev_dt dt_Contest_note_0 26 rfl) hC.2.1 (by omega) (by decide) ?_
    obtain ⟨hC1, hF1⟩ := hC.setB (upd be i (be i ||| nI 1 <<< (nI j &&& 31)))
    exact ev_return (ev_dt dt_Contest_note_0 27 rfl) rfl (kk _ _ hC1 hF1 rfl)
  · refine ev_iload_3 (ev_dt dt_Contest_note_0 0 rfl) ?_
    refine ev_ic1 (ev_dt dt_Contest_note_0 1 rfl) ?_
    refine ev_icmp_neT (tgt := 20) (ev_dt dt_Contest_note_0 2 rfl) (by decide) (by decide +kernel) ?_
    refine ev_iload_3 (ev_dt dt_Contest_note_0 14 rfl) ?_
    refine ev_ic2 (ev_dt dt_Contest_note_0 15 rfl) ?_
    refine ev_icmp_neT (tgt := 37) (ev_dt dt_Contest_note_0 16 rfl) (by decide) (by decide +kernel) ?_
    exact ev_return (ev_dt dt_Contest_note_0 27 rfl) rfl (kk h be hC fI.rf rfl)
end C4
end
section
/-! The contest: who beats whom, groups, the unbeaten, ranks, the first ones (written by gen_c5.py over walk.py). -/
/-- the pair x, y has been looked at -/
def prd (i j x y : Nat) : Prop := (x < y ∧ (x < i ∨ (x = i ∧ y < j))) ∨ (y < x ∧ (y < i ∨ (y = i ∧ x < j)))
def hIv (c : Nat) (ps : Nat → Bool) (B : Nat → Nat → Bool) (i j : Nat) (be : Nat → Int32) : Prop := ∀ x, x < c → ∀ y, y < 32 → (bt (be x) y = true ↔ (y < c ∧ ps x = true ∧ ps y = true ∧ prd i j x y ∧ B y x = true))
section HIV
variable {c : Nat} {ps : Nat → Bool} {B : Nat → Nat → Bool} {i j : Nat} {be : Nat → Int32}
theorem hIv_step (hc : c ≤ 24) (hij : i < j) (hj : j < c) (hI : hIv c ps B i j be) (v : Fin 4) (hv1 : v = 1 ↔ B i j = true) (hv2 : v = 2 ↔ B j i = true) (pi : ps i = true) (pj : ps j = true) :
    hIv c ps B i (j + 1) (if v = 1 then upd be j (be j ||| nI 1 <<< (nI i &&& 31)) else if v = 2 then upd be i (be i ||| nI 1 <<< (nI j &&& 31)) else be) := by
  intro x hx y hy
  have e1 : bt ((if v = 1 then upd be j (be j ||| nI 1 <<< (nI i &&& 31)) else if v = 2 then upd be i (be i ||| nI 1 <<< (nI j &&& 31)) else be) x) y = true ↔ bt (be x) y = true ∨ (x = j ∧ y = i ∧ v = 1) ∨ (x = i ∧ y = j ∧ v = 2) := by
    by_cases v1 : v = 1
    · rw [if_pos v1]
      by_cases ex : x = j
      · rw [ex, pk_us, b_or, q_sh1 (by omega) hy, Bool.or_eq_true, decide_eq_true_iff]
        constructor
        · rintro (q | q)
          · exact Or.inl q
          · exact Or.inr (Or.inl ⟨rfl, q, v1⟩)
        · rintro (q | ⟨-, q, -⟩ | ⟨-, -, q⟩)
          · exact Or.inl q
          · exact Or.inr q
          · rw [v1] at q; exact absurd q (by decide)
      · rw [pk_un ex]
        constructor
        · exact Or.inl
        · rintro (q | ⟨q, -⟩ | ⟨-, -, q⟩)
          · exact q
          · exact absurd q ex
          · rw [v1] at q; exact absurd q (by decide)
    · rw [if_neg v1]
      by_cases v2 : v = 2
      · rw [if_pos v2]
        by_cases ex : x = i
        · rw [ex, pk_us, b_or, q_sh1 (by omega) hy, Bool.or_eq_true, decide_eq_true_iff]
          constructor
          · rintro (q | q)
            · exact Or.inl q
            · exact Or.inr (Or.inr ⟨rfl, q, v2⟩)
          · rintro (q | ⟨-, -, q⟩ | ⟨-, q, -⟩)
            · exact Or.inl q
            · exact absurd q v1
            · exact Or.inr q
        · rw [pk_un ex]
          constructor
          · exact Or.inl
          · rintro (q | ⟨-, -, q⟩ | ⟨q, -⟩)
            · exact q
            · exact absurd q v1
            · exact absurd q ex
      · rw [if_neg v2]
        constructor
        · exact Or.inl
        · rintro (q | ⟨-, -, q⟩ | ⟨-, -, q⟩)
          · exact q
          · exact absurd q v1
          · exact absurd q v2
  rw [e1, hI x hx y hy]
  constructor
  · rintro (⟨a, b, c1, e, f⟩ | ⟨g1, g2, g⟩ | ⟨g1, g2, g⟩)
    · exact ⟨a, b, c1, by unfold prd at e ⊢; omega, f⟩
    · rw [g1, g2]; exact ⟨by omega, pj, pi, by unfold prd; omega, hv1.mp g⟩
    · rw [g1, g2]; exact ⟨hj, pi, pj, by unfold prd; omega, hv2.mp g⟩
  · rintro ⟨a, b, c1, e, f⟩
    by_cases q1 : x = j ∧ y = i
    · rw [q1.1, q1.2] at f; exact Or.inr (Or.inl ⟨q1.1, q1.2, hv1.mpr f⟩)
    · by_cases q2 : x = i ∧ y = j
      · rw [q2.1, q2.2] at f; exact Or.inr (Or.inr ⟨q2.1, q2.2, hv2.mpr f⟩)
      · exact Or.inl ⟨a, b, c1, by unfold prd at e ⊢; omega, f⟩
theorem hIv_skip (hij : i < j) (hI : hIv c ps B i j be) (hno : ¬ (ps i = true ∧ ps j = true)) : hIv c ps B i (j + 1) be := by
  intro x hx y hy
  rw [hI x hx y hy]
  constructor
  · rintro ⟨a, b, c1, e, f⟩
    exact ⟨a, b, c1, by unfold prd at e ⊢; omega, f⟩
  · rintro ⟨a, b, c1, e, f⟩
    refine ⟨a, b, c1, ?_, f⟩
    by_cases q1 : x = j ∧ y = i
    · rw [q1.1] at b; rw [q1.2] at c1; exact absurd ⟨c1, b⟩ hno
    · by_cases q2 : x = i ∧ y = j
      · rw [q2.1] at b; rw [q2.2] at c1; exact absurd ⟨b, c1⟩ hno
      · unfold prd at e ⊢; omega
theorem hIv_next (hI : hIv c ps B i c be) : hIv c ps B (i + 1) (i + 1 + 1) be := by
  intro x hx y hy
  rw [hI x hx y hy]
  constructor
  · rintro ⟨a, b, c1, e, f⟩
    exact ⟨a, b, c1, by unfold prd at e ⊢; omega, f⟩
  · rintro ⟨a, b, c1, e, f⟩
    exact ⟨a, b, c1, by unfold prd at e ⊢; omega, f⟩
theorem hIv_0 (h : ∀ x, x < c → be x = nI 0) : hIv c ps B 0 (0 + 1) be := by
  intro x hx y hy
  rw [h x hx, q_0]
  constructor
  · intro q; cases q
  · rintro ⟨a, b, c1, e, f⟩
    unfold prd at e; omega
/-- at the end: who beats whom -/
def hEnd (c : Nat) (ps : Nat → Bool) (B : Nat → Nat → Bool) (be : Nat → Int32) : Prop := ∀ x, x < c → ∀ y, y < 32 → (bt (be x) y = true ↔ (y < c ∧ y ≠ x ∧ ps x = true ∧ ps y = true ∧ B y x = true))
theorem hIv_end (hic : c ≤ i) (hI : hIv c ps B i j be) : hEnd c ps B be := by
  intro x hx y hy
  rw [hI x hx y hy]
  constructor
  · rintro ⟨a, b, c1, e, f⟩
    exact ⟨a, by unfold prd at e; omega, b, c1, f⟩
  · rintro ⟨a, e, b, c1, f⟩
    exact ⟨a, b, c1, by unfold prd; omega, f⟩
end HIV
section C5
variable {E : ev_E} {d : Nat} {h : ev_h} {sz k n : Nat} {Q : ev_Q}
theorem t_Contest_hold {r c m : Nat} {nu : Nat → Int32} {V : Nat → Nat → Int32} {q : Nat} {pm : Int32} {be le : Nat → Int32} {a cc : Nat} {on op th : Nat → Int32} {cn co : Nat → Nat} {ps : Nat → Bool} {N : nod} {ed : Nat → Nat → Int32} {zs : Nat → Nat} {cs : Nat → Int32} {ad : Nat → Nat} {nc nd : Nat} (hc : c ≤ 24) (hR : RwAt E r c m nu V h) (hC : CtAt E q pm be le h) (hcc : cc ≤ 4) (hL : CdAt E a cc on op th h) (hon : ∀ i, i < cc → on i = nI (cn i) ∧ cn i < 4) (hop : ∀ i, i < cc → op i = nI (co i) ∧ co i < 6) (hps : ∀ i, i < c → (ps i = true ↔ okC cc cn co th (V i))) (hrq : r + 27 ≤ q) (haq : a + 4 ≤ q ∨ q + 3 ≤ a) (hN : ∀ i, i < nc → NdAt E N ed zs cs ad i h) (hok : okN N nc) (hadr : ∀ i, i < nc → q + 3 ≤ ad i) (hnd : nd < nc) (hd : nd + 5 ≤ d + 2) (kk : ∀ h' pm' be', CtAt E q pm' be' le h' → fI q 3 h h' → (∀ i, i < 32 → bt pm' i = decide (i < c ∧ ps i = true)) → hEnd c ps (fun y x => decide (say N (V y) (V x) nd = 1)) be' → Q (.returned none) h' sz k n) : Ev E m_Contest_hold (d + 3) 0 [some (.ref q), some (.ref r), some (.ref (ad nd)), some (.ref a), none, none] [] h sz k n Q := by
  refine ev_aload_0 (ev_dt dt_Contest_hold_0 0 rfl) ?_
  refine ev_aload_1 (ev_dt dt_Contest_hold_0 1 rfl) ?_
  refine ev_aload_3 (ev_dt dt_Contest_hold_0 2 rfl) ?_
  refine ev_callV (ev_dt dt_Contest_hold_0 3 rfl) v_Contest_22_5 hC.1 [.ref r, .ref a] rfl np_Contest_letIn rfl (ev_lk_of (j := 1) rfl rfl) (t_Contest_letIn (d := d) hc hR hC hcc hL hon hop hps hrq haq (fun h0 pm1 be0 hC0 hF0 hP hB0 => ev_r0 ?_))
  have inner : ∀ i, i < c → (∀ h1 be1, CtAt E q pm1 be1 le h1 → fI q 3 h h1 → hIv c ps (fun y x => decide (say N (V y) (V x) nd = 1)) i c be1 → Ev E m_Contest_hold (d + 3) 9 [some (.ref q), some (.ref r), some (.ref (ad nd)), some (.ref a), some (.int (nI (i + 1))), none] [] h1 sz k n Q) → ∀ m' j h' be', j + m' = c → i < j → CtAt E q pm1 be' le h' → fI q 3 h h' → hIv c ps (fun y x => decide (say N (V y) (V x) nd = 1)) i j be' → Ev E m_Contest_hold (d + 3) 24 [some (.ref q), some (.ref r), some (.ref (ad nd)), some (.ref a), some (.int (nI i)), some (.int (nI j))] [] h' sz k n Q := by
    intro i hi go m'
    induction m' with
    | zero =>
      intro j h' be' hj hij hC' hF hI
      have hR' : RwAt E r c m nu V h' := hR.kept (fun z a b => hF z (by omega))
      have hN' : ∀ i, i < nc → NdAt E N ed zs cs ad i h' := fun i hi => (hN i hi).kept (fun z a b => hF z (by have := hadr i hi; omega))
      refine ev_iload_5 (ev_dt dt_Contest_hold_0 14 rfl) ?_
      refine ev_aload_1 (ev_dt dt_Contest_hold_0 15 rfl) ?_
      refine ev_get (ev_dt dt_Contest_hold_0 16 rfl) g_Contest_26_1 hR'.1 rfl ?_
      refine ev_icmp_geT (tgt := 89) (ev_dt dt_Contest_hold_0 17 rfl) (by decide) (nI_le (by omega) (by omega)) ?_
      refine ev_inc1_4 (ev_dt dt_Contest_hold_0 44 rfl) (by decide) rfl ?_
      refine ev_goto (tgt := 9) (ev_dt dt_Contest_hold_0 45 rfl) (by decide) ?_
      obtain rfl : j = c := by omega
      refine ev_fg_5 ?_
      exact go h' be' hC' hF hI
    | succ m' ih =>
      intro j h' be' hj hij hC' hF hI
      have hR' : RwAt E r c m nu V h' := hR.kept (fun z a b => hF z (by omega))
      have hN' : ∀ i, i < nc → NdAt E N ed zs cs ad i h' := fun i hi => (hN i hi).kept (fun z a b => hF z (by have := hadr i hi; omega))
      refine ev_iload_5 (ev_dt dt_Contest_hold_0 14 rfl) ?_
      refine ev_aload_1 (ev_dt dt_Contest_hold_0 15 rfl) ?_
      refine ev_get (ev_dt dt_Contest_hold_0 16 rfl) g_Contest_26_1 hR'.1 rfl ?_
      refine ev_icmp_geF (tgt := 89) (ev_dt dt_Contest_hold_0 17 rfl) (by decide) (nI_ge (by omega) (by omega)) ?_
      refine ev_aload_0 (ev_dt dt_Contest_hold_0 18 rfl) ?_
      refine ev_get (ev_dt dt_Contest_hold_0 19 rfl) g_Contest_18_5 hC'.1 rfl ?_
      refine ev_iload_4 (ev_dt dt_Contest_hold_0 20 rfl) ?_
      refine ev_callS (ev_dt dt_Contest_hold_0 21 rfl) s_Contest_31 [.int pm1, .int (nI i)] rfl np_Contest_isIn rfl (ev_lk_of (j := 0) rfl rfl) (t_Contest_isIn (by omega) (fun hx => ev_r1 ?_) (fun hx => ev_r1 ?_))
      · refine ev_if_eqF (tgt := 83) (ev_dt dt_Contest_hold_0 22 rfl) (by decide) z10 ?_
        refine ev_aload_0 (ev_dt dt_Contest_hold_0 23 rfl) ?_
        refine ev_get (ev_dt dt_Contest_hold_0 24 rfl) g_Contest_18_5 hC'.1 rfl ?_
        refine ev_iload_5 (ev_dt dt_Contest_hold_0 25 rfl) ?_
        refine ev_callS (ev_dt dt_Contest_hold_0 26 rfl) s_Contest_31 [.int pm1, .int (nI j)] rfl np_Contest_isIn rfl (ev_lk_of (j := 0) rfl rfl) (t_Contest_isIn (by omega) (fun hx2 => ev_r1 ?_) (fun hx2 => ev_r1 ?_))
        · refine ev_if_eqF (tgt := 83) (ev_dt dt_Contest_hold_0 27 rfl) (by decide) z10 ?_
          refine ev_aload_0 (ev_dt dt_Contest_hold_0 28 rfl) ?_
          refine ev_iload_4 (ev_dt dt_Contest_hold_0 29 rfl) ?_
          refine ev_iload_5 (ev_dt dt_Contest_hold_0 30 rfl) ?_
          refine ev_aload_2 (ev_dt dt_Contest_hold_0 31 rfl) ?_
          refine ev_aload_1 (ev_dt dt_Contest_hold_0 32 rfl) ?_
          refine ev_get (ev_dt dt_Contest_hold_0 33 rfl) g_Contest_35_1 hR'.1 rfl ?_
          refine ev_iload_4 (ev_dt dt_Contest_hold_0 34 rfl) ?_
          refine ev_aald (t := 5) (ev_dt dt_Contest_hold_0 35 rfl) rfl rfl hR'.2.2.1 (by omega) (by decide) (rw_v (by omega)) ?_
          refine ev_aload_1 (ev_dt dt_Contest_hold_0 36 rfl) ?_
          refine ev_get (ev_dt dt_Contest_hold_0 37 rfl) g_Contest_35_1 hR'.1 rfl ?_
          refine ev_iload_5 (ev_dt dt_Contest_hold_0 38 rfl) ?_
          refine ev_aald (t := 5) (ev_dt dt_Contest_hold_0 39 rfl) rfl rfl hR'.2.2.1 (by omega) (by decide) (rw_v (by omega)) ?_
          refine ev_saysG (d := d + 2) (ev_dt dt_Contest_hold_0 40 rfl) u_Contest_39_6 u_Contest_39_7 u_Contest_39_8 u_Contest_39_9 (hN' nd hnd) rfl (t_says hN' (hR'.2.2.2 i (by omega)) (hR'.2.2.2 j (by omega)) nd hnd _ hd) ?_
          refine ev_callV (ev_dt dt_Contest_hold_0 41 rfl) v_Contest_45_5 hC'.1 [.int (nI i), .int (nI j), .int (nI (say N (V i) (V j) nd).val)] rfl np_Contest_note rfl (ev_lk_of (j := 0) rfl rfl) (t_Contest_note (by omega) (by omega) hC' (fun h2 be2 hC2 hF2 hbe => ev_r0 ?_))
          refine ev_inc1_5 (ev_dt dt_Contest_hold_0 42 rfl) (by decide) rfl ?_
          refine ev_goto (tgt := 24) (ev_dt dt_Contest_hold_0 43 rfl) (by decide) ?_
          have pi : ps i = true := by rw [hP i (by omega)] at hx; exact (of_decide_eq_true hx).2
          have pj : ps j = true := by rw [hP j (by omega)] at hx2; exact (of_decide_eq_true hx2).2
          refine ih (j + 1) h2 be2 (by omega) (by omega) hC2 (hF.tr hF2) ?_
          rw [hbe]
          refine hIv_step hc hij (by omega) hI _ ?_ ?_ pi pj
          · simp only [decide_eq_true_iff]
          · rw [decide_eq_true_iff, say_fl hok (V i) (V j) nd hnd]; exact fl_1.symm
        · refine ev_if_eqT (tgt := 83) (ev_dt dt_Contest_hold_0 27 rfl) (by decide) z00 ?_
          refine ev_inc1_5 (ev_dt dt_Contest_hold_0 42 rfl) (by decide) rfl ?_
          refine ev_goto (tgt := 24) (ev_dt dt_Contest_hold_0 43 rfl) (by decide) ?_
          exact ih (j + 1) h' be' (by omega) (by omega) hC' hF (hIv_skip hij hI (fun e => by rw [hP j (by omega)] at hx2; exact of_decide_eq_false hx2 ⟨by omega, e.2⟩))
      · refine ev_if_eqT (tgt := 83) (ev_dt dt_Contest_hold_0 22 rfl) (by decide) z00 ?_
        refine ev_inc1_5 (ev_dt dt_Contest_hold_0 42 rfl) (by decide) rfl ?_
        refine ev_goto (tgt := 24) (ev_dt dt_Contest_hold_0 43 rfl) (by decide) ?_
        exact ih (j + 1) h' be' (by omega) (by omega) hC' hF (hIv_skip hij hI (fun e => by rw [hP i (by omega)] at hx; exact of_decide_eq_false hx ⟨by omega, e.1⟩))
  have outer : ∀ m' i h' be', i + m' = c → CtAt E q pm1 be' le h' → fI q 3 h h' → hIv c ps (fun y x => decide (say N (V y) (V x) nd = 1)) i (i + 1) be' → Ev E m_Contest_hold (d + 3) 9 [some (.ref q), some (.ref r), some (.ref (ad nd)), some (.ref a), some (.int (nI i)), none] [] h' sz k n Q := by
    intro m'
    induction m' with
    | zero =>
      intro i h' be' hi hC' hF hI
      have hR' : RwAt E r c m nu V h' := hR.kept (fun z a b => hF z (by omega))
      have hN' : ∀ i, i < nc → NdAt E N ed zs cs ad i h' := fun i hi => (hN i hi).kept (fun z a b => hF z (by have := hadr i hi; omega))
      refine ev_iload_4 (ev_dt dt_Contest_hold_0 6 rfl) ?_
      refine ev_aload_1 (ev_dt dt_Contest_hold_0 7 rfl) ?_
      refine ev_get (ev_dt dt_Contest_hold_0 8 rfl) g_Contest_26_1 hR'.1 rfl ?_
      refine ev_icmp_geT (tgt := 95) (ev_dt dt_Contest_hold_0 9 rfl) (by decide) (nI_le (by omega) (by omega)) ?_
      exact ev_return (ev_dt dt_Contest_hold_0 46 rfl) rfl (kk h' pm1 be' hC' hF hP (hIv_end (by omega) hI))
    | succ m' ih =>
      intro i h' be' hi hC' hF hI
      have hR' : RwAt E r c m nu V h' := hR.kept (fun z a b => hF z (by omega))
      have hN' : ∀ i, i < nc → NdAt E N ed zs cs ad i h' := fun i hi => (hN i hi).kept (fun z a b => hF z (by have := hadr i hi; omega))
      refine ev_iload_4 (ev_dt dt_Contest_hold_0 6 rfl) ?_
      refine ev_aload_1 (ev_dt dt_Contest_hold_0 7 rfl) ?_
      refine ev_get (ev_dt dt_Contest_hold_0 8 rfl) g_Contest_26_1 hR'.1 rfl ?_
      refine ev_icmp_geF (tgt := 95) (ev_dt dt_Contest_hold_0 9 rfl) (by decide) (nI_ge (by omega) (by omega)) ?_
      refine ev_iload_4 (ev_dt dt_Contest_hold_0 10 rfl) ?_
      refine ev_ic1 (ev_dt dt_Contest_hold_0 11 rfl) ?_
      refine ev_addn (ev_dt dt_Contest_hold_0 12 rfl) ?_
      refine ev_istore_5 (ev_dt dt_Contest_hold_0 13 rfl) (by decide) rfl ?_
      exact inner i (by omega) (fun h1 be1 hC1 hF1 hI1 => ih (i + 1) h1 be1 (by omega) hC1 hF1 (hIv_next hI1)) (c - (i + 1)) (i + 1) h' be' (by omega) (by omega) hC' hF hI
  refine ev_ic0 (ev_dt dt_Contest_hold_0 4 rfl) ?_
  refine ev_istore_4 (ev_dt dt_Contest_hold_0 5 rfl) (by decide) rfl ?_
  exact outer c 0 h0 be0 (by omega) hC0 hF0 (hIv_0 hB0)
end C5
end
section
/-! Groups, the unbeaten (written by gen_c6.py over walk.py). -/
/-- what is left of be when those of other groups are forgotten, up to i, j -/
def gIv (c : Nat) (D : Nat → Nat → Prop) (i j : Nat) (be be' : Nat → Int32) : Prop := ∀ x, x < c → ∀ y, y < 32 → (bt (be' x) y = true ↔ (bt (be x) y = true ∧ ¬ ((x < i ∨ (x = i ∧ y < j)) ∧ y < c ∧ D x y)))
theorem gIv_step {c : Nat} {D : Nat → Nat → Prop} {i j : Nat} {be be' : Nat → Int32} (hc : c ≤ 24) (hj : j < c) (hI : gIv c D i j be be') (hD : D i j) : gIv c D i (j + 1) be (upd be' i (be' i &&& (nI 1 <<< (nI j &&& 31) ^^^ (-1)))) := by
  intro x hx y hy
  by_cases ex : x = i
  · rw [ex, pk_us, b_and, q_not _ hy, q_sh1 (by omega) hy, Bool.and_eq_true, hI i (by omega) y hy]
    by_cases ey : y = j
    · rw [ey]
      constructor
      · rintro ⟨-, q⟩; simp at q
      · rintro ⟨-, q⟩; exact absurd ⟨Or.inr ⟨rfl, by omega⟩, hj, hD⟩ q
    · constructor
      · rintro ⟨⟨q1, q2⟩, -⟩
        exact ⟨q1, fun q3 => q2 ⟨by omega, q3.2⟩⟩
      · rintro ⟨q1, q2⟩
        exact ⟨⟨q1, fun q3 => q2 ⟨by omega, q3.2⟩⟩, by simp [ey]⟩
  · rw [pk_un ex, hI x hx y hy]
    constructor
    · rintro ⟨q1, q2⟩
      exact ⟨q1, fun q3 => q2 ⟨by omega, q3.2⟩⟩
    · rintro ⟨q1, q2⟩
      exact ⟨q1, fun q3 => q2 ⟨by omega, q3.2⟩⟩
theorem gIv_skip {c : Nat} {D : Nat → Nat → Prop} {i j : Nat} {be be' : Nat → Int32} (hI : gIv c D i j be be') (hD : ¬ D i j) : gIv c D i (j + 1) be be' := by
  intro x hx y hy
  rw [hI x hx y hy]
  constructor
  · rintro ⟨q1, q2⟩
    refine ⟨q1, fun q3 => ?_⟩
    by_cases e : x = i ∧ y = j
    · rw [e.1, e.2] at q3; exact hD q3.2.2
    · exact q2 ⟨by omega, q3.2⟩
  · rintro ⟨q1, q2⟩
    exact ⟨q1, fun q3 => q2 ⟨by omega, q3.2⟩⟩
theorem gIv_next {c : Nat} {D : Nat → Nat → Prop} {i : Nat} {be be' : Nat → Int32} (hI : gIv c D i c be be') : gIv c D (i + 1) 0 be be' := by
  intro x hx y hy
  rw [hI x hx y hy]
  constructor
  · rintro ⟨q1, q2⟩
    exact ⟨q1, fun q3 => q2 ⟨by omega, q3.2⟩⟩
  · rintro ⟨q1, q2⟩
    exact ⟨q1, fun q3 => q2 ⟨by omega, q3.2⟩⟩
theorem gIv_0 {c : Nat} {D : Nat → Nat → Prop} {be : Nat → Int32} : gIv c D 0 0 be be := fun x hx y hy => ⟨fun q => ⟨q, fun q3 => by omega⟩, fun q => q.1⟩
theorem LsAt.push {E : ev_E} {a c : Nat} {f : Nat → Int32} {x : Int32} {h : ev_h} : LsAt E a (c + 1) (upd f c x) (ev_up (ev_up h (a + 1) (iA E 24 (upd f c x))) a (oB 2 [.ref (a + 1), .int (nI (c + 1))])) ∧ fI a 2 h (ev_up (ev_up h (a + 1) (iA E 24 (upd f c x))) a (oB 2 [.ref (a + 1), .int (nI (c + 1))])) :=
  ⟨⟨ev_up_s, (ev_up_n (by omega)).trans ev_up_s⟩, (fI.up (by omega) (by omega)).tr (fI.up (by omega) (by omega))⟩
theorem LsAt.clr {E : ev_E} {a c : Nat} {f : Nat → Int32} {h : ev_h} (hL : LsAt E a c f h) : LsAt E a 0 f (ev_up h a (oB 2 [.ref (a + 1), .int (nI 0)])) ∧ fI a 2 h (ev_up h a (oB 2 [.ref (a + 1), .int (nI 0)])) :=
  ⟨⟨ev_up_s, (ev_up_n (by omega)).trans hL.2⟩, fI.up (by omega) (by omega)⟩
section C6
variable {E : ev_E} {d : Nat} {h : ev_h} {sz k n : Nat} {Q : ev_Q}
theorem t_Contest_forget {r c m cl : Nat} {nu : Nat → Int32} {V : Nat → Nat → Int32} {q : Nat} {pm : Int32} {be le : Nat → Int32} (hc : c ≤ 24) (hcl : cl < 4) (hR : RwAt E r c m nu V h) (hC : CtAt E q pm be le h) (hrq : r + 27 ≤ q) (kk : ∀ h' be', CtAt E q pm be' le h' → fI q 3 h h' → (∀ x, x < c → ∀ y, y < 32 → (bt (be' x) y = true ↔ (bt (be x) y = true ∧ ¬ (y < c ∧ V x cl ≠ V y cl)))) → Q (.returned none) h' sz k n) : Ev E m_Contest_forgetOtherGroups d 0 [some (.ref q), some (.ref r), some (.int (nI cl)), none, none] [] h sz k n Q := by
  have inner : ∀ i, i < c → (∀ h1 be1, CtAt E q pm be1 le h1 → fI q 3 h h1 → gIv c (fun x y => V x cl ≠ V y cl) i c be be1 → Ev E m_Contest_forgetOtherGroups d 2 [some (.ref q), some (.ref r), some (.int (nI cl)), some (.int (nI (i + 1))), none] [] h1 sz k n Q) → ∀ m' j h' be', j + m' = c → CtAt E q pm be' le h' → fI q 3 h h' → gIv c (fun x y => V x cl ≠ V y cl) i j be be' → Ev E m_Contest_forgetOtherGroups d 13 [some (.ref q), some (.ref r), some (.int (nI cl)), some (.int (nI i)), some (.int (nI j))] [] h' sz k n Q := by
    intro i hi go m'
    induction m' with
    | zero =>
      intro j h' be' hj hC' hF hI
      have hR' : RwAt E r c m nu V h' := hR.kept (fun z a b => hF z (by omega))
      refine ev_iload_4 (ev_dt dt_Contest_forgetOtherGroups_0 8 rfl) ?_
      refine ev_aload_1 (ev_dt dt_Contest_forgetOtherGroups_0 9 rfl) ?_
      refine ev_get (ev_dt dt_Contest_forgetOtherGroups_0 10 rfl) g_Contest_26_1 hR'.1 rfl ?_
      refine ev_icmp_geT (tgt := 63) (ev_dt dt_Contest_forgetOtherGroups_0 11 rfl) (by decide) (nI_le (by omega) (by omega)) ?_
      refine ev_inc1_3 (ev_dt dt_Contest_forgetOtherGroups_0 39 rfl) (by decide) rfl ?_
      refine ev_goto (tgt := 2) (ev_dt dt_Contest_forgetOtherGroups_0 40 rfl) (by decide) ?_
      obtain rfl : j = c := by omega
      refine ev_fg_4 ?_
      exact go h' be' hC' hF hI
    | succ m' ih =>
      intro j h' be' hj hC' hF hI
      have hR' : RwAt E r c m nu V h' := hR.kept (fun z a b => hF z (by omega))
      refine ev_iload_4 (ev_dt dt_Contest_forgetOtherGroups_0 8 rfl) ?_
      refine ev_aload_1 (ev_dt dt_Contest_forgetOtherGroups_0 9 rfl) ?_
      refine ev_get (ev_dt dt_Contest_forgetOtherGroups_0 10 rfl) g_Contest_26_1 hR'.1 rfl ?_
      refine ev_icmp_geF (tgt := 63) (ev_dt dt_Contest_forgetOtherGroups_0 11 rfl) (by decide) (nI_ge (by omega) (by omega)) ?_
      refine ev_aload_1 (ev_dt dt_Contest_forgetOtherGroups_0 12 rfl) ?_
      refine ev_get (ev_dt dt_Contest_forgetOtherGroups_0 13 rfl) g_Contest_35_1 hR'.1 rfl ?_
      refine ev_iload_3 (ev_dt dt_Contest_forgetOtherGroups_0 14 rfl) ?_
      refine ev_aald (t := 5) (ev_dt dt_Contest_forgetOtherGroups_0 15 rfl) rfl rfl hR'.2.2.1 (by omega) (by decide) (rw_v (by omega)) ?_
      refine ev_iload_2 (ev_dt dt_Contest_forgetOtherGroups_0 16 rfl) ?_
      refine ev_iald (ev_dt dt_Contest_forgetOtherGroups_0 17 rfl) (hR'.2.2.2 _ (by omega)) (by omega) (by decide) rfl ?_
      refine ev_aload_1 (ev_dt dt_Contest_forgetOtherGroups_0 18 rfl) ?_
      refine ev_get (ev_dt dt_Contest_forgetOtherGroups_0 19 rfl) g_Contest_35_1 hR'.1 rfl ?_
      refine ev_iload_4 (ev_dt dt_Contest_forgetOtherGroups_0 20 rfl) ?_
      refine ev_aald (t := 5) (ev_dt dt_Contest_forgetOtherGroups_0 21 rfl) rfl rfl hR'.2.2.1 (by omega) (by decide) (rw_v (by omega)) ?_
      refine ev_iload_2 (ev_dt dt_Contest_forgetOtherGroups_0 22 rfl) ?_
      refine ev_iald (ev_dt dt_Contest_forgetOtherGroups_0 23 rfl) (hR'.2.2.2 _ (by omega)) (by omega) (by decide) rfl ?_
      refine ev_icmp_eq (tgt := 57) (ev_dt dt_Contest_forgetOtherGroups_0 24 rfl) (by decide) (fun hD => ?_) (fun hD => ?_)
      · refine ev_inc1_4 (ev_dt dt_Contest_forgetOtherGroups_0 37 rfl) (by decide) rfl ?_
        refine ev_goto (tgt := 13) (ev_dt dt_Contest_forgetOtherGroups_0 38 rfl) (by decide) ?_
        exact ih (j + 1) h' be' (by omega) hC' hF (gIv_skip hI (fun e => e hD))
      · refine ev_aload_0 (ev_dt dt_Contest_forgetOtherGroups_0 25 rfl) ?_
        refine ev_get (ev_dt dt_Contest_forgetOtherGroups_0 26 rfl) g_Contest_9_5 hC'.1 rfl ?_
        refine ev_iload_3 (ev_dt dt_Contest_forgetOtherGroups_0 27 rfl) ?_
        refine ev_dup2 (ev_dt dt_Contest_forgetOtherGroups_0 28 rfl) rfl rfl ?_
        refine ev_iald (ev_dt dt_Contest_forgetOtherGroups_0 29 rfl) hC'.2.1 (by omega) (by decide) rfl ?_
        refine ev_ic1 (ev_dt dt_Contest_forgetOtherGroups_0 30 rfl) ?_
        refine ev_iload_4 (ev_dt dt_Contest_forgetOtherGroups_0 31 rfl) ?_
        refine ev_ishl (ev_dt dt_Contest_forgetOtherGroups_0 32 rfl) rfl ?_
        refine ev_icm (ev_dt dt_Contest_forgetOtherGroups_0 33 rfl) ?_
        refine ev_ixor (ev_dt dt_Contest_forgetOtherGroups_0 34 rfl) rfl ?_
        refine ev_iand (ev_dt dt_Contest_forgetOtherGroups_0 35 rfl) rfl ?_
        refine ev_iast (ev_dt dt_Contest_forgetOtherGroups_0 36 rfl) hC'.2.1 (by omega) (by decide) ?_
        refine ev_inc1_4 (ev_dt dt_Contest_forgetOtherGroups_0 37 rfl) (by decide) rfl ?_
        refine ev_goto (tgt := 13) (ev_dt dt_Contest_forgetOtherGroups_0 38 rfl) (by decide) ?_
        obtain ⟨hC2, hF2⟩ := hC'.setB (upd be' i (be' i &&& (nI 1 <<< (nI j &&& 31) ^^^ (-1))))
        exact ih (j + 1) _ _ (by omega) hC2 (hF.tr hF2) (gIv_step hc (by omega) hI hD)
  have outer : ∀ m' i h' be', i + m' = c → CtAt E q pm be' le h' → fI q 3 h h' → gIv c (fun x y => V x cl ≠ V y cl) i 0 be be' → Ev E m_Contest_forgetOtherGroups d 2 [some (.ref q), some (.ref r), some (.int (nI cl)), some (.int (nI i)), none] [] h' sz k n Q := by
    intro m'
    induction m' with
    | zero =>
      intro i h' be' hi hC' hF hI
      have hR' : RwAt E r c m nu V h' := hR.kept (fun z a b => hF z (by omega))
      refine ev_iload_3 (ev_dt dt_Contest_forgetOtherGroups_0 2 rfl) ?_
      refine ev_aload_1 (ev_dt dt_Contest_forgetOtherGroups_0 3 rfl) ?_
      refine ev_get (ev_dt dt_Contest_forgetOtherGroups_0 4 rfl) g_Contest_26_1 hR'.1 rfl ?_
      refine ev_icmp_geT (tgt := 69) (ev_dt dt_Contest_forgetOtherGroups_0 5 rfl) (by decide) (nI_le (by omega) (by omega)) ?_
      exact ev_return (ev_dt dt_Contest_forgetOtherGroups_0 41 rfl) rfl (kk h' be' hC' hF (fun x hx y hy => by rw [hI x hx y hy]; constructor <;> (rintro ⟨q1, q2⟩; exact ⟨q1, fun q3 => q2 (by first | exact ⟨by omega, q3⟩ | exact q3.2)⟩)))
    | succ m' ih =>
      intro i h' be' hi hC' hF hI
      have hR' : RwAt E r c m nu V h' := hR.kept (fun z a b => hF z (by omega))
      refine ev_iload_3 (ev_dt dt_Contest_forgetOtherGroups_0 2 rfl) ?_
      refine ev_aload_1 (ev_dt dt_Contest_forgetOtherGroups_0 3 rfl) ?_
      refine ev_get (ev_dt dt_Contest_forgetOtherGroups_0 4 rfl) g_Contest_26_1 hR'.1 rfl ?_
      refine ev_icmp_geF (tgt := 69) (ev_dt dt_Contest_forgetOtherGroups_0 5 rfl) (by decide) (nI_ge (by omega) (by omega)) ?_
      refine ev_ic0 (ev_dt dt_Contest_forgetOtherGroups_0 6 rfl) ?_
      refine ev_istore_4 (ev_dt dt_Contest_forgetOtherGroups_0 7 rfl) (by decide) rfl ?_
      exact inner i (by omega) (fun h1 be1 hC1 hF1 hI1 => ih (i + 1) h1 be1 (by omega) hC1 hF1 (gIv_next hI1)) c 0 h' be' (by omega) hC' hF hI
  refine ev_ic0 (ev_dt dt_Contest_forgetOtherGroups_0 0 rfl) ?_
  refine ev_istore_3 (ev_dt dt_Contest_forgetOtherGroups_0 1 rfl) (by decide) rfl ?_
  exact outer c 0 h be (by omega) hC fI.rf gIv_0
theorem t_Contest_listUnbeaten {r c m l c0 : Nat} {nu f0 : Nat → Int32} {V : Nat → Nat → Int32} {q : Nat} {pm : Int32} {be le : Nat → Int32} (hc : c ≤ 24) (hR : RwAt E r c m nu V h) (hC : CtAt E q pm be le h) (hL : LsAt E l c0 f0 h) (hrl : r + 27 ≤ l) (hql : q + 3 ≤ l) (kk : ∀ h' c' f' π, LsAt E l c' f' h' → fI l 2 h h' → en c' π (fun i => bt pm i && decide (be i = 0)) c → (∀ i, i < c' → f' i = nu (π i)) → Q (.returned none) h' sz k n) : Ev E m_Contest_listUnbeaten (d + 1) 0 [some (.ref q), some (.ref r), some (.ref l), none] [] h sz k n Q := by
  have loop : ∀ m' j h' c' f' π, j + m' = c → LsAt E l c' f' h' → fI l 2 h h' → en c' π (fun i => bt pm i && decide (be i = 0)) j → (∀ i, i < c' → f' i = nu (π i)) → Ev E m_Contest_listUnbeaten (d + 1) 6 [some (.ref q), some (.ref r), some (.ref l), some (.int (nI j))] [] h' sz k n Q := by
    intro m'
    induction m' with
    | zero =>
      intro j h' c' f' π hj hL' hF hE hf
      have hR' : RwAt E r c m nu V h' := hR.kept (fun z a b => hF z (by omega))
      have hC' : CtAt E q pm be le h' := hC.kept (fun z a b => hF z (by omega))
      refine ev_iload_3 (ev_dt dt_Contest_listUnbeaten_0 4 rfl) ?_
      refine ev_aload_1 (ev_dt dt_Contest_listUnbeaten_0 5 rfl) ?_
      refine ev_get (ev_dt dt_Contest_listUnbeaten_0 6 rfl) g_Contest_26_1 hR'.1 rfl ?_
      refine ev_icmp_geT (tgt := 50) (ev_dt dt_Contest_listUnbeaten_0 7 rfl) (by decide) (nI_le (by omega) (by omega)) ?_
      obtain rfl : j = c := by omega
      exact ev_return (ev_dt dt_Contest_listUnbeaten_0 26 rfl) rfl (kk h' c' f' π hL' hF hE hf)
    | succ m' ih =>
      intro j h' c' f' π hj hL' hF hE hf
      have hR' : RwAt E r c m nu V h' := hR.kept (fun z a b => hF z (by omega))
      have hC' : CtAt E q pm be le h' := hC.kept (fun z a b => hF z (by omega))
      refine ev_iload_3 (ev_dt dt_Contest_listUnbeaten_0 4 rfl) ?_
      refine ev_aload_1 (ev_dt dt_Contest_listUnbeaten_0 5 rfl) ?_
      refine ev_get (ev_dt dt_Contest_listUnbeaten_0 6 rfl) g_Contest_26_1 hR'.1 rfl ?_
      refine ev_icmp_geF (tgt := 50) (ev_dt dt_Contest_listUnbeaten_0 7 rfl) (by decide) (nI_ge (by omega) (by omega)) ?_
      refine ev_aload_0 (ev_dt dt_Contest_listUnbeaten_0 8 rfl) ?_
      refine ev_get (ev_dt dt_Contest_listUnbeaten_0 9 rfl) g_Contest_18_5 hC'.1 rfl ?_
      refine ev_iload_3 (ev_dt dt_Contest_listUnbeaten_0 10 rfl) ?_
      refine ev_callS (ev_dt dt_Contest_listUnbeaten_0 11 rfl) s_Contest_31 [.int pm, .int (nI j)] rfl np_Contest_isIn rfl (ev_lk_of (j := 0) rfl rfl) (t_Contest_isIn (by omega) (fun hx => ev_r1 ?_) (fun hx => ev_r1 ?_))
      · refine ev_if_eqF (tgt := 44) (ev_dt dt_Contest_listUnbeaten_0 12 rfl) (by decide) z10 ?_
        refine ev_aload_0 (ev_dt dt_Contest_listUnbeaten_0 13 rfl) ?_
        refine ev_get (ev_dt dt_Contest_listUnbeaten_0 14 rfl) g_Contest_9_5 hC'.1 rfl ?_
        refine ev_iload_3 (ev_dt dt_Contest_listUnbeaten_0 15 rfl) ?_
        refine ev_iald (ev_dt dt_Contest_listUnbeaten_0 16 rfl) hC'.2.1 (by omega) (by decide) rfl ?_
        refine ev_if_ne (tgt := 44) (ev_dt dt_Contest_listUnbeaten_0 17 rfl) (by decide) (fun hz => ?_) (fun hz => ?_)
        · refine ev_inc1_3 (ev_dt dt_Contest_listUnbeaten_0 24 rfl) (by decide) rfl ?_
          refine ev_goto (tgt := 6) (ev_dt dt_Contest_listUnbeaten_0 25 rfl) (by decide) ?_
          exact ih (j + 1) h' c' f' π (by omega) hL' hF (en_skip hE (by simp [hx, hz])) hf
        · refine ev_aload_2 (ev_dt dt_Contest_listUnbeaten_0 18 rfl) ?_
          refine ev_aload_1 (ev_dt dt_Contest_listUnbeaten_0 19 rfl) ?_
          refine ev_get (ev_dt dt_Contest_listUnbeaten_0 20 rfl) g_Contest_60_1 hR'.1 rfl ?_
          refine ev_iload_3 (ev_dt dt_Contest_listUnbeaten_0 21 rfl) ?_
          refine ev_iald (ev_dt dt_Contest_listUnbeaten_0 22 rfl) hR'.2.1 (by omega) (by decide) rfl ?_
          have hc' : c' < 24 := by have := en_total hE; have := cnt_le (fun i => bt pm i && decide (be i = 0)) j; omega
          refine ev_callV (ev_dt dt_Contest_listUnbeaten_0 23 rfl) v_Contest_63_2 hL'.1 [.int (nu j)] rfl np_RowList_add rfl (ev_lk_of (j := 0) rfl rfl) (t_RowList_add hc' hL' (ev_r0 ?_))
          refine ev_inc1_3 (ev_dt dt_Contest_listUnbeaten_0 24 rfl) (by decide) rfl ?_
          refine ev_goto (tgt := 6) (ev_dt dt_Contest_listUnbeaten_0 25 rfl) (by decide) ?_
          obtain ⟨hL2, hF2⟩ := LsAt.push (E := E) (a := l) (c := c') (f := f') (x := nu j) (h := h')
          exact ih (j + 1) _ (c' + 1) _ (fun z => if z = c' then j else π z) (by omega) hL2 (hF.tr hF2) (en_push hE (by simp [hx, hz]) (fun i hi => if_neg (by omega)) (if_pos rfl)) (fun i hi => by
            by_cases e : i = c'
            · rw [e, pk_us, if_pos rfl]
            · rw [pk_un e, if_neg e]; exact hf i (by omega))
      · refine ev_if_eqT (tgt := 44) (ev_dt dt_Contest_listUnbeaten_0 12 rfl) (by decide) z00 ?_
        refine ev_inc1_3 (ev_dt dt_Contest_listUnbeaten_0 24 rfl) (by decide) rfl ?_
        refine ev_goto (tgt := 6) (ev_dt dt_Contest_listUnbeaten_0 25 rfl) (by decide) ?_
        exact ih (j + 1) h' c' f' π (by omega) hL' hF (en_skip hE (by simp [hx])) hf
  refine ev_aload_2 (ev_dt dt_Contest_listUnbeaten_0 0 rfl) ?_
  refine ev_callV (ev_dt dt_Contest_listUnbeaten_0 1 rfl) v_Contest_55_2 hL.1 [] rfl np_RowList_clear rfl (ev_lk_of (j := 0) rfl rfl) (t_RowList_clear hL (ev_r0 ?_))
  refine ev_ic0 (ev_dt dt_Contest_listUnbeaten_0 2 rfl) ?_
  refine ev_istore_3 (ev_dt dt_Contest_listUnbeaten_0 3 rfl) (by decide) rfl ?_
  obtain ⟨hL2, hF2⟩ := hL.clr
  exact loop c 0 _ 0 f0 (fun _ => 0) (by omega) hL2 hF2 en_0 (fun i hi => absurd hi (Nat.not_lt_zero _))
end C6
end
section
/-! Ranks, the first ones (written by gen_c7.py over walk.py). -/
theorem rank_u {c : Nat} {ps : Nat → Bool} {B : Nat → Nat → Bool} {be : Nat → Int32} {lm u : Int32} {rd : Nat} (hc : c ≤ 24) (hB : okB ps B c) (he : hEnd c ps B be) (hrd : 1 ≤ rd) (hl : ∀ i, i < 32 → bt lm i = decide (i < c ∧ ps i = true ∧ rd ≤ lz ps B c i))
    (hu : ∀ i, i < 32 → bt u i = decide (i < 24 ∧ bt lm i = true ∧ be i &&& lm = 0)) : ∀ i, i < 32 → bt u i = decide (i < c ∧ ps i = true ∧ lz ps B c i = rd) := by
  intro i hi
  rw [hu i hi, decide_eq_decide]
  constructor
  · rintro ⟨h1, h2, h3⟩
    rw [hl i hi, decide_eq_true_iff] at h2
    obtain ⟨g1, g2, g3⟩ := h2
    refine ⟨g1, g2, ?_⟩
    have h4 : lz ps B c i ≤ (rd - 1) + 1 := by
      rw [lz_iff hB g1 g2]
      intro y hy py hb
      by_cases q : lz ps B c y ≤ rd - 1
      · exact q
      · exfalso
        have hne : y ≠ i := by
          rintro rfl
          rw [hB.1 y hy py] at hb; cases hb
        have b1 : bt (be i) y = true := (he i g1 y (by omega)).mpr ⟨hy, hne, g2, py, hb⟩
        have b2 : bt lm y = true := by rw [hl y (by omega), decide_eq_true_iff]; exact ⟨hy, py, by omega⟩
        have b3 : bt (be i &&& lm) y = true := by rw [b_and, b1, b2]; rfl
        rw [h3, b_0] at b3
        cases b3
    omega
  · rintro ⟨g1, g2, g3⟩
    refine ⟨by omega, by rw [hl i hi, decide_eq_true_iff]; exact ⟨g1, g2, by omega⟩, ?_⟩
    refine b_ext fun y hy => ?_
    rw [b_0, b_and]
    cases b1 : bt (be i) y with
    | false => rfl
    | true =>
      cases b2 : bt lm y with
      | false => rfl
      | true =>
        exfalso
        rw [he i g1 y hy] at b1
        rw [hl y hy, decide_eq_true_iff] at b2
        have := lz_lt hB b1.1 g1 b1.2.2.2.1 g2 b1.2.2.2.2
        omega
/-- how many come before (l, i): of a smaller level, or of the level l and a smaller number -/
def rk (lv : Nat → Nat) (c l i : Nat) : Nat := cnt (fun u => decide (1 ≤ lv u ∧ (lv u < l ∨ (lv u = l ∧ u < i)))) c
theorem cnt_one {f g : Nat → Bool} {i : Nat} : ∀ n, i < n → (∀ u, u < n → u ≠ i → f u = g u) → cnt f n + (if g i = true then 1 else 0) = cnt g n + (if f i = true then 1 else 0)
  | 0, hi, _ => absurd hi (Nat.not_lt_zero _)
  | n + 1, hi, h => by
    simp only [cnt]
    by_cases e : i = n
    · subst e
      rw [cnt_congr i (fun u hu => h u (by omega) (by omega))]
      omega
    · have := cnt_one (f := f) (g := g) (i := i) n (by omega) (fun u hu => h u (by omega))
      rw [h n (by omega) (by omega)]
      omega
theorem rk_step {lv : Nat → Nat} {c l i : Nat} (hi : i < c) (hl : 1 ≤ l) : rk lv c l (i + 1) = rk lv c l i + (if lv i = l then 1 else 0) := by
  have h := cnt_one (f := fun u => decide (1 ≤ lv u ∧ (lv u < l ∨ (lv u = l ∧ u < i + 1)))) (g := fun u => decide (1 ≤ lv u ∧ (lv u < l ∨ (lv u = l ∧ u < i)))) (i := i) c hi (fun u _ hu => by
    rw [decide_eq_decide]; constructor <;> (rintro ⟨a, b⟩; exact ⟨a, by omega⟩))
  simp only [decide_eq_true_iff] at h
  unfold rk
  by_cases e : lv i = l
  · rw [if_neg (by omega), if_pos (by omega)] at h
    rw [if_pos e]; omega
  · rw [if_neg e]
    by_cases e2 : 1 ≤ lv i ∧ lv i < l
    · rw [if_pos (by omega), if_pos (by omega)] at h; omega
    · rw [if_neg (by omega), if_neg (by omega)] at h; omega
theorem rk_next {lv : Nat → Nat} {c l : Nat} : rk lv c (l + 1) 0 = rk lv c l c := by
  refine cnt_congr c (fun u hu => ?_)
  rw [decide_eq_decide]; constructor <;> (rintro ⟨a, b⟩; exact ⟨a, by omega⟩)
theorem rk_0 {lv : Nat → Nat} {c : Nat} : rk lv c 1 0 = 0 := by
  have := cnt_flat (S := fun u => decide (1 ≤ lv u ∧ (lv u < 1 ∨ (lv u = 1 ∧ u < 0)))) (m := 0) (n := c) (Nat.zero_le _) (fun r _ _ => decide_eq_false (by omega))
  exact this
theorem rk_mono {lv : Nat → Nat} {c l i j : Nat} (h : i ≤ j) : rk lv c l i ≤ rk lv c l j := cnt_mono c (fun u _ => by simp only [decide_eq_true_iff]; rintro ⟨a, b⟩; exact ⟨a, by omega⟩)
theorem rk_le {lv : Nat → Nat} {c l i : Nat} : rk lv c l i ≤ c := cnt_le _ c
section C7
variable {E : ev_E} {d : Nat} {h : ev_h} {sz k n : Nat} {Q : ev_Q}
theorem t_Contest_rank {q c : Nat} {pm : Int32} {be le : Nat → Int32} {ps : Nat → Bool} {B : Nat → Nat → Bool} (hc : c ≤ 24) (hC : CtAt E q pm be le h) (hP : ∀ i, i < 32 → bt pm i = decide (i < c ∧ ps i = true)) (he : hEnd c ps B be) (hB : okB ps B c) (kk : ∀ h' le', CtAt E q pm be le' h' → fI q 3 h h' → (∀ i, i < 24 → le' i = nI (if i < c ∧ ps i = true then lz ps B c i else 0)) → Q (.returned none) h' sz k n) : Ev E m_Contest_rank (d + 2) 0 [some (.ref q), none, none, none] [] h sz k n Q := by
  have loop : ∀ m' rd h' lm le', rd + m' = 25 → 1 ≤ rd → CtAt E q pm be le' h' → fI q 3 h h' → (∀ i, i < 32 → bt lm i = decide (i < c ∧ ps i = true ∧ rd ≤ lz ps B c i)) → (∀ i, i < 24 → ¬ (i < c ∧ ps i = true) → le' i = nI 0) → (∀ i, i < c → ps i = true → lz ps B c i < rd → le' i = nI (lz ps B c i)) → Ev E m_Contest_rank (d + 2) 18 [some (.ref q), some (.int lm), some (.int (nI rd)), none] [] h' sz k n Q := by
    intro m'
    induction m' with
    | zero =>
      intro rd h' lm le' hrd hr1 hC' hF hl h0 h1
      refine ev_iload_2 (ev_dt dt_Contest_rank_0 12 rfl) ?_
      refine ev_bipush (ev_dt dt_Contest_rank_0 13 rfl) bi_24 ?_
      refine ev_icmp_gtT (tgt := 52) (ev_dt dt_Contest_rank_0 14 rfl) (by decide) (nI_lt (by omega) (by omega)) ?_
      exact ev_return (ev_dt dt_Contest_rank_0 33 rfl) rfl (kk h' le' hC' hF (fun i hi => by
          by_cases e : i < c ∧ ps i = true
          · rw [if_pos e, h1 i e.1 e.2 (by have := lz_le hB e.1 e.2; have := cnt_le ps c; omega)]
          · rw [if_neg e, h0 i hi e]))
    | succ m' ih =>
      intro rd h' lm le' hrd hr1 hC' hF hl h0 h1
      refine ev_iload_2 (ev_dt dt_Contest_rank_0 12 rfl) ?_
      refine ev_bipush (ev_dt dt_Contest_rank_0 13 rfl) bi_24 ?_
      refine ev_icmp_gtF (tgt := 52) (ev_dt dt_Contest_rank_0 14 rfl) (by decide) (nI_nlt (by omega) (by omega)) ?_
      refine ev_iload_1 (ev_dt dt_Contest_rank_0 15 rfl) ?_
      refine ev_if_eq (tgt := 52) (ev_dt dt_Contest_rank_0 16 rfl) (by decide) (fun hz => ?_) (fun hz => ?_)
      · exact ev_return (ev_dt dt_Contest_rank_0 33 rfl) rfl (kk h' le' hC' hF (fun i hi => by
            by_cases e : i < c ∧ ps i = true
            · rw [if_pos e, h1 i e.1 e.2 (by
              by_cases e2 : lz ps B c i < rd
              · exact e2
              · exfalso
                have := hl i (by omega)
                rw [hz, b_0] at this
                exact of_decide_eq_false this.symm ⟨e.1, e.2, by omega⟩)]
            · rw [if_neg e, h0 i hi e]))
      · refine ev_aload_0 (ev_dt dt_Contest_rank_0 17 rfl) ?_
        refine ev_iload_1 (ev_dt dt_Contest_rank_0 18 rfl) ?_
        refine ev_callV (ev_dt dt_Contest_rank_0 19 rfl) v_Contest_71_5 hC'.1 [.int lm] rfl np_Contest_unbeatenAmong rfl (ev_lk_of (j := 2) rfl rfl) (t_Contest_unbeatenAmong (d := d) hC' (fun u hub => ev_r1 ?_))
        refine ev_istore_3 (ev_dt dt_Contest_rank_0 20 rfl) (by decide) rfl ?_
        refine ev_aload_0 (ev_dt dt_Contest_rank_0 21 rfl) ?_
        refine ev_iload_3 (ev_dt dt_Contest_rank_0 22 rfl) ?_
        refine ev_iload_2 (ev_dt dt_Contest_rank_0 23 rfl) ?_
        refine ev_callV (ev_dt dt_Contest_rank_0 24 rfl) v_Contest_67_5 hC'.1 [.int u, .int (nI rd)] rfl np_Contest_setLevel rfl (ev_lk_of (j := 1) rfl rfl) (t_Contest_setLevel (d := d) hC' (fun h2 le2 hC2 hF2 hl2 => ev_r0 ?_))
        refine ev_iload_1 (ev_dt dt_Contest_rank_0 25 rfl) ?_
        refine ev_iload_3 (ev_dt dt_Contest_rank_0 26 rfl) ?_
        refine ev_icm (ev_dt dt_Contest_rank_0 27 rfl) ?_
        refine ev_ixor (ev_dt dt_Contest_rank_0 28 rfl) rfl ?_
        refine ev_iand (ev_dt dt_Contest_rank_0 29 rfl) rfl ?_
        refine ev_istore_1 (ev_dt dt_Contest_rank_0 30 rfl) (by decide) rfl ?_
        refine ev_inc1_2 (ev_dt dt_Contest_rank_0 31 rfl) (by decide) rfl ?_
        refine ev_goto (tgt := 18) (ev_dt dt_Contest_rank_0 32 rfl) (by decide) ?_
        have hu := rank_u hc hB he (by omega) hl hub
        refine ev_fg_3 ?_
        exact ih (rd + 1) h2 _ le2 (by omega) (by omega) hC2 (hF.tr hF2) (fun i hi => by
          rw [b_and, q_not _ hi, hl i hi, hu i hi, ← decide_not, ← Bool.decide_and, decide_eq_decide]
          constructor
          · rintro ⟨⟨a, b, c1⟩, e⟩; exact ⟨a, b, by have : lz ps B c i ≠ rd := fun z => e ⟨a, b, z⟩; omega⟩
          · rintro ⟨a, b, c1⟩; exact ⟨⟨a, b, by omega⟩, fun z => by omega⟩) (fun i hi e => by
          rw [hl2 i hi, if_neg (by rw [hu i (by omega), decide_eq_true_iff]; exact fun z => e ⟨z.1, z.2.1⟩)]; exact h0 i hi e) (fun i hi e1 e2 => by
          rw [hl2 i (by omega), hu i (by omega)]
          by_cases e3 : lz ps B c i = rd
          · rw [if_pos (decide_eq_true ⟨hi, e1, e3⟩), e3]
          · rw [if_neg (by rw [decide_eq_true_iff]; exact fun z => e3 z.2.2)]; exact h1 i hi e1 (by omega))
  refine ev_aload_0 (ev_dt dt_Contest_rank_0 0 rfl) ?_
  refine ev_aload_0 (ev_dt dt_Contest_rank_0 1 rfl) ?_
  refine ev_get (ev_dt dt_Contest_rank_0 2 rfl) g_Contest_18_5 hC.1 rfl ?_
  refine ev_icm (ev_dt dt_Contest_rank_0 3 rfl) ?_
  refine ev_ixor (ev_dt dt_Contest_rank_0 4 rfl) rfl ?_
  refine ev_ic0 (ev_dt dt_Contest_rank_0 5 rfl) ?_
  refine ev_callV (ev_dt dt_Contest_rank_0 6 rfl) v_Contest_67_5 hC.1 [.int (pm ^^^ (-1)), .int (nI 0)] rfl np_Contest_setLevel rfl (ev_lk_of (j := 1) rfl rfl) (t_Contest_setLevel (d := d) hC (fun h1 le1 hC1 hF1 hl1 => ev_r0 ?_))
  refine ev_aload_0 (ev_dt dt_Contest_rank_0 7 rfl) ?_
  refine ev_get (ev_dt dt_Contest_rank_0 8 rfl) g_Contest_18_5 hC1.1 rfl ?_
  refine ev_istore_1 (ev_dt dt_Contest_rank_0 9 rfl) (by decide) rfl ?_
  refine ev_ic1 (ev_dt dt_Contest_rank_0 10 rfl) ?_
  refine ev_istore_2 (ev_dt dt_Contest_rank_0 11 rfl) (by decide) rfl ?_
  exact loop 24 1 h1 pm le1 (by omega) (by omega) hC1 hF1 (fun i hi => by
    rw [hP i hi, decide_eq_decide]
    constructor
    · rintro ⟨a, b⟩; exact ⟨a, b, lz_pos hB a b⟩
    · rintro ⟨a, b, -⟩; exact ⟨a, b⟩) (fun i hi e => by
    rw [hl1 i hi, if_pos (by rw [q_not _ (by omega), hP i (by omega)]; simp only [Bool.not_eq_true', decide_eq_false_iff_not]; exact e)]) (fun i hi e1 e2 => absurd (lz_pos hB hi e1) (by omega))
theorem t_Contest_listFirst {r c m l c0 t : Nat} {nu f0 : Nat → Int32} {V : Nat → Nat → Int32} {q : Nat} {pm : Int32} {be le : Nat → Int32} {lv : Nat → Nat} (hc : c ≤ 24) (ht : t < 2 ^ 31) (hlv : ∀ i, lv i ≤ 65536) (hle : ∀ i, i < c → le i = nI (lv i)) (hR : RwAt E r c m nu V h) (hC : CtAt E q pm be le h) (hL : LsAt E l c0 f0 h) (hrl : r + 27 ≤ l) (hql : q + 3 ≤ l) (kk : ∀ h' c' f', LsAt E l c' f' h' → fI l 2 h h' → c' = min t (rk lv c (c + 1) 0) → (∀ i, i < c' → ∃ u, u < c ∧ 1 ≤ lv u ∧ rk lv c (lv u) u = i ∧ f' i = nu u) → Q (.returned none) h' sz k n) : Ev E m_Contest_listFirst (d + 1) 0 [some (.ref q), some (.ref r), some (.int (nI t)), some (.ref l), none, none] [] h sz k n Q := by
  have inner : ∀ g, 1 ≤ g ∧ g ≤ c → (∀ h1 c1 f1, LsAt E l c1 f1 h1 → fI l 2 h h1 → c1 = min t (rk lv c (g + 1) 0) → (∀ i, i < c1 → ∃ u, u < c ∧ 1 ≤ lv u ∧ rk lv c (lv u) u = i ∧ f1 i = nu u) → Ev E m_Contest_listFirst (d + 1) 7 [some (.ref q), some (.ref r), some (.int (nI t)), some (.ref l), some (.int (nI (g + 1))), none] [] h1 sz k n Q) → ∀ m' j h' c' f', j + m' = c → LsAt E l c' f' h' → fI l 2 h h' → c' = min t (rk lv c g j) → (∀ i, i < c' → ∃ u, u < c ∧ 1 ≤ lv u ∧ rk lv c (lv u) u = i ∧ f' i = nu u) → Ev E m_Contest_listFirst (d + 1) 19 [some (.ref q), some (.ref r), some (.int (nI t)), some (.ref l), some (.int (nI g)), some (.int (nI j))] [] h' sz k n Q := by
    intro g hg2 go m'
    obtain ⟨hg, hg24⟩ := hg2
    induction m' with
    | zero =>
      intro j h' c' f' hj hL' hF hm hf
      have hR' : RwAt E r c m nu V h' := hR.kept (fun z a b => hF z (by omega))
      have hC' : CtAt E q pm be le h' := hC.kept (fun z a b => hF z (by omega))
      have hc24 : c' ≤ 24 := by have := rk_le (lv := lv) (c := c) (l := g) (i := j); omega
      refine ev_iload_5 (ev_dt dt_Contest_listFirst_0 10 rfl) ?_
      refine ev_aload_1 (ev_dt dt_Contest_listFirst_0 11 rfl) ?_
      refine ev_get (ev_dt dt_Contest_listFirst_0 12 rfl) g_Contest_26_1 hR'.1 rfl ?_
      refine ev_icmp_geT (tgt := 65) (ev_dt dt_Contest_listFirst_0 13 rfl) (by decide) (nI_le (by omega) (by omega)) ?_
      refine ev_inc1_4 (ev_dt dt_Contest_listFirst_0 32 rfl) (by decide) rfl ?_
      refine ev_goto (tgt := 7) (ev_dt dt_Contest_listFirst_0 33 rfl) (by decide) ?_
      obtain rfl : j = c := by omega
      refine ev_fg_5 ?_
      exact go h' c' f' hL' hF (by rw [rk_next]; exact hm) hf
    | succ m' ih =>
      intro j h' c' f' hj hL' hF hm hf
      have hR' : RwAt E r c m nu V h' := hR.kept (fun z a b => hF z (by omega))
      have hC' : CtAt E q pm be le h' := hC.kept (fun z a b => hF z (by omega))
      have hc24 : c' ≤ 24 := by have := rk_le (lv := lv) (c := c) (l := g) (i := j); omega
      refine ev_iload_5 (ev_dt dt_Contest_listFirst_0 10 rfl) ?_
      refine ev_aload_1 (ev_dt dt_Contest_listFirst_0 11 rfl) ?_
      refine ev_get (ev_dt dt_Contest_listFirst_0 12 rfl) g_Contest_26_1 hR'.1 rfl ?_
      refine ev_icmp_geF (tgt := 65) (ev_dt dt_Contest_listFirst_0 13 rfl) (by decide) (nI_ge (by omega) (by omega)) ?_
      refine ev_aload_3 (ev_dt dt_Contest_listFirst_0 14 rfl) ?_
      refine ev_get (ev_dt dt_Contest_listFirst_0 15 rfl) g_Contest_75_2 hL'.1 rfl ?_
      refine ev_iload_2 (ev_dt dt_Contest_listFirst_0 16 rfl) ?_
      refine ev_icmp_ge (tgt := 65) (ev_dt dt_Contest_listFirst_0 17 rfl) (by decide) (fun hn => ?_) (fun hn => ?_)
      · refine ev_inc1_4 (ev_dt dt_Contest_listFirst_0 32 rfl) (by decide) rfl ?_
        refine ev_goto (tgt := 7) (ev_dt dt_Contest_listFirst_0 33 rfl) (by decide) ?_
        refine ev_fg_5 ?_
        have hn' : t ≤ c' := (nI_leI (by omega) (by omega)).mp hn
        exact go h' c' f' hL' hF (by have := rk_mono (lv := lv) (c := c) (l := g) (i := j) (j := c) (by omega); rw [rk_next]; omega) hf
      · have hn' : c' < t := by rw [nI_leI (by omega) (by omega)] at hn; omega
        refine ev_aload_0 (ev_dt dt_Contest_listFirst_0 18 rfl) ?_
        refine ev_get (ev_dt dt_Contest_listFirst_0 19 rfl) g_Contest_15_5 hC'.1 rfl ?_
        refine ev_iload_5 (ev_dt dt_Contest_listFirst_0 20 rfl) ?_
        refine ev_iald (ev_dt dt_Contest_listFirst_0 21 rfl) hC'.2.2 (by omega) (by decide) rfl ?_
        refine ev_iload_4 (ev_dt dt_Contest_listFirst_0 22 rfl) ?_
        refine ev_icmp_ne (tgt := 59) (ev_dt dt_Contest_listFirst_0 23 rfl) (by decide) (fun he => ?_) (fun he => ?_)
        · refine ev_inc1_5 (ev_dt dt_Contest_listFirst_0 30 rfl) (by decide) rfl ?_
          refine ev_goto (tgt := 19) (ev_dt dt_Contest_listFirst_0 31 rfl) (by decide) ?_
          have he' : lv j ≠ g := fun e => he (by rw [hle j (by omega), e])
          exact ih (j + 1) h' c' f' (by omega) hL' hF (by rw [rk_step (by omega) hg, if_neg he']; exact hm) hf
        · have he' : lv j = g := by rw [hle j (by omega)] at he; exact (nI_eq (by have := hlv j; omega) (by omega)).mp he
          refine ev_aload_3 (ev_dt dt_Contest_listFirst_0 24 rfl) ?_
          refine ev_aload_1 (ev_dt dt_Contest_listFirst_0 25 rfl) ?_
          refine ev_get (ev_dt dt_Contest_listFirst_0 26 rfl) g_Contest_60_1 hR'.1 rfl ?_
          refine ev_iload_5 (ev_dt dt_Contest_listFirst_0 27 rfl) ?_
          refine ev_iald (ev_dt dt_Contest_listFirst_0 28 rfl) hR'.2.1 (by omega) (by decide) rfl ?_
          have hc' : c' < 24 := by have := rk_le (lv := lv) (c := c) (l := g) (i := j + 1); rw [rk_step (by omega) hg, if_pos he'] at this; omega
          refine ev_callV (ev_dt dt_Contest_listFirst_0 29 rfl) v_Contest_63_2 hL'.1 [.int (nu j)] rfl np_RowList_add rfl (ev_lk_of (j := 0) rfl rfl) (t_RowList_add hc' hL' (ev_r0 ?_))
          refine ev_inc1_5 (ev_dt dt_Contest_listFirst_0 30 rfl) (by decide) rfl ?_
          refine ev_goto (tgt := 19) (ev_dt dt_Contest_listFirst_0 31 rfl) (by decide) ?_
          obtain ⟨hL2, hF2⟩ := LsAt.push (E := E) (a := l) (c := c') (f := f') (x := nu j) (h := h')
          exact ih (j + 1) _ (c' + 1) _ (by omega) hL2 (hF.tr hF2) (by rw [rk_step (by omega) hg, if_pos he']; omega) (fun i hi => by
            by_cases e : i = c'
            · exact ⟨j, by omega, by omega, by rw [he']; omega, by rw [e, pk_us]⟩
            · rw [pk_un e]; exact hf i (by omega))
  have outer : ∀ m' g h' c' f', g + m' = c + 1 → 1 ≤ g → LsAt E l c' f' h' → fI l 2 h h' → c' = min t (rk lv c g 0) → (∀ i, i < c' → ∃ u, u < c ∧ 1 ≤ lv u ∧ rk lv c (lv u) u = i ∧ f' i = nu u) → Ev E m_Contest_listFirst (d + 1) 7 [some (.ref q), some (.ref r), some (.int (nI t)), some (.ref l), some (.int (nI g)), none] [] h' sz k n Q := by
    intro m'
    induction m' with
    | zero =>
      intro g h' c' f' hi hg hL' hF hm hf
      have hR' : RwAt E r c m nu V h' := hR.kept (fun z a b => hF z (by omega))
      have hC' : CtAt E q pm be le h' := hC.kept (fun z a b => hF z (by omega))
      have hc24 : c' ≤ 24 := by have := rk_le (lv := lv) (c := c) (l := g) (i := 0); omega
      refine ev_iload_4 (ev_dt dt_Contest_listFirst_0 4 rfl) ?_
      refine ev_aload_1 (ev_dt dt_Contest_listFirst_0 5 rfl) ?_
      refine ev_get (ev_dt dt_Contest_listFirst_0 6 rfl) g_Contest_26_1 hR'.1 rfl ?_
      refine ev_icmp_gtT (tgt := 71) (ev_dt dt_Contest_listFirst_0 7 rfl) (by decide) (nI_lt (by omega) (by omega)) ?_
      obtain rfl : g = c + 1 := by omega
      exact ev_return (ev_dt dt_Contest_listFirst_0 34 rfl) rfl (kk h' c' f' hL' hF hm hf)
    | succ m' ih =>
      intro g h' c' f' hi hg hL' hF hm hf
      have hR' : RwAt E r c m nu V h' := hR.kept (fun z a b => hF z (by omega))
      have hC' : CtAt E q pm be le h' := hC.kept (fun z a b => hF z (by omega))
      have hc24 : c' ≤ 24 := by have := rk_le (lv := lv) (c := c) (l := g) (i := 0); omega
      refine ev_iload_4 (ev_dt dt_Contest_listFirst_0 4 rfl) ?_
      refine ev_aload_1 (ev_dt dt_Contest_listFirst_0 5 rfl) ?_
      refine ev_get (ev_dt dt_Contest_listFirst_0 6 rfl) g_Contest_26_1 hR'.1 rfl ?_
      refine ev_icmp_gtF (tgt := 71) (ev_dt dt_Contest_listFirst_0 7 rfl) (by decide) (nI_nlt (by omega) (by omega)) ?_
      refine ev_ic0 (ev_dt dt_Contest_listFirst_0 8 rfl) ?_
      refine ev_istore_5 (ev_dt dt_Contest_listFirst_0 9 rfl) (by decide) rfl ?_
      exact inner g (by omega) (fun h1 c1 f1 hL1 hF1 hm1 hf1 => ih (g + 1) h1 c1 f1 (by omega) (by omega) hL1 hF1 hm1 hf1) c 0 h' c' f' (by omega) hL' hF hm hf
  refine ev_aload_3 (ev_dt dt_Contest_listFirst_0 0 rfl) ?_
  refine ev_callV (ev_dt dt_Contest_listFirst_0 1 rfl) v_Contest_55_2 hL.1 [] rfl np_RowList_clear rfl (ev_lk_of (j := 0) rfl rfl) (t_RowList_clear hL (ev_r0 ?_))
  refine ev_ic1 (ev_dt dt_Contest_listFirst_0 2 rfl) ?_
  refine ev_istore_4 (ev_dt dt_Contest_listFirst_0 3 rfl) (by decide) rfl ?_
  obtain ⟨hL2, hF2⟩ := hL.clr
  exact outer c 1 _ 0 f0 (by omega) (by omega) hL2 hF2 (by rw [rk_0]; omega) (fun i hi => absurd hi (Nat.not_lt_zero _))
end C7
end
section
/-! Rows come and go; conditions are copied; a question is asked (written by gen_c8.py over walk.py). -/
section C8
variable {E : ev_E} {d : Nat} {h : ev_h} {sz k n : Nat} {Q : ev_Q}
theorem t_Rows_add {r c m : Nat} {nu : Nat → Int32} {V : Nat → Nat → Int32} {x0 x1 x2 x3 : Int32} (hc : c < 24) (hR : RwAt E r c m nu V h) (kk : ∀ h', RwAt E r (c + 1) (m + 1) (upd nu c (nI m)) (fun i => if i = c then upd (upd (upd (upd (V c) 0 x0) 1 x1) 2 x2) 3 x3 else V i) h' → fI r 27 h h' → Q (.returned (some (.int (nI m)))) h' sz k n) : Ev E m_Rows_add d 0 [some (.ref r), some (.int x0), some (.int x1), some (.int x2), some (.int x3), none] [] h sz k n Q := by
  refine ev_aload_0 (ev_dt dt_Rows_add_0 0 rfl) ?_
  refine ev_get (ev_dt dt_Rows_add_0 1 rfl) g_Rows_24_1 hR.1 rfl ?_
  refine ev_istore_5 (ev_dt dt_Rows_add_0 2 rfl) (by decide) rfl ?_
  refine ev_aload_0 (ev_dt dt_Rows_add_0 3 rfl) ?_
  refine ev_get (ev_dt dt_Rows_add_0 4 rfl) g_Rows_9_1 hR.1 rfl ?_
  refine ev_aload_0 (ev_dt dt_Rows_add_0 5 rfl) ?_
  refine ev_get (ev_dt dt_Rows_add_0 6 rfl) g_Rows_20_1 hR.1 rfl ?_
  refine ev_iload_5 (ev_dt dt_Rows_add_0 7 rfl) ?_
  refine ev_iast (ev_dt dt_Rows_add_0 8 rfl) hR.2.1 (by omega) (by decide) ?_
  refine ev_aload_0 (ev_dt dt_Rows_add_0 9 rfl) ?_
  refine ev_get (ev_dt dt_Rows_add_0 10 rfl) g_Rows_17_1 ((ev_up_n (by omega)).trans hR.1) rfl ?_
  refine ev_aload_0 (ev_dt dt_Rows_add_0 11 rfl) ?_
  refine ev_get (ev_dt dt_Rows_add_0 12 rfl) g_Rows_20_1 ((ev_up_n (by omega)).trans hR.1) rfl ?_
  refine ev_aald (t := 5) (ev_dt dt_Rows_add_0 13 rfl) rfl rfl ((ev_up_n (by omega)).trans hR.2.2.1) (by omega) (by decide) (rw_v (by omega)) ?_
  refine ev_ic0 (ev_dt dt_Rows_add_0 14 rfl) ?_
  refine ev_iload_1 (ev_dt dt_Rows_add_0 15 rfl) ?_
  refine ev_iast (ev_dt dt_Rows_add_0 16 rfl) ((ev_up_n (by omega)).trans (hR.2.2.2 _ (by omega))) (by omega) (by decide) ?_
  refine ev_aload_0 (ev_dt dt_Rows_add_0 17 rfl) ?_
  refine ev_get (ev_dt dt_Rows_add_0 18 rfl) g_Rows_17_1 ((ev_up_n (by omega)).trans ((ev_up_n (by omega)).trans hR.1)) rfl ?_
  refine ev_aload_0 (ev_dt dt_Rows_add_0 19 rfl) ?_
  refine ev_get (ev_dt dt_Rows_add_0 20 rfl) g_Rows_20_1 ((ev_up_n (by omega)).trans ((ev_up_n (by omega)).trans hR.1)) rfl ?_
  refine ev_aald (t := 5) (ev_dt dt_Rows_add_0 21 rfl) rfl rfl ((ev_up_n (by omega)).trans ((ev_up_n (by omega)).trans hR.2.2.1)) (by omega) (by decide) (rw_v (by omega)) ?_
  refine ev_ic1 (ev_dt dt_Rows_add_0 22 rfl) ?_
  refine ev_iload_2 (ev_dt dt_Rows_add_0 23 rfl) ?_
  refine ev_iast (ev_dt dt_Rows_add_0 24 rfl) ev_up_s (by omega) (by decide) ?_
  refine ev_aload_0 (ev_dt dt_Rows_add_0 25 rfl) ?_
  refine ev_get (ev_dt dt_Rows_add_0 26 rfl) g_Rows_17_1 ((ev_up_n (by omega)).trans ((ev_up_n (by omega)).trans ((ev_up_n (by omega)).trans hR.1))) rfl ?_
  refine ev_aload_0 (ev_dt dt_Rows_add_0 27 rfl) ?_
  refine ev_get (ev_dt dt_Rows_add_0 28 rfl) g_Rows_20_1 ((ev_up_n (by omega)).trans ((ev_up_n (by omega)).trans ((ev_up_n (by omega)).trans hR.1))) rfl ?_
  refine ev_aald (t := 5) (ev_dt dt_Rows_add_0 29 rfl) rfl rfl ((ev_up_n (by omega)).trans ((ev_up_n (by omega)).trans ((ev_up_n (by omega)).trans hR.2.2.1))) (by omega) (by decide) (rw_v (by omega)) ?_
  refine ev_ic2 (ev_dt dt_Rows_add_0 30 rfl) ?_
  refine ev_iload_3 (ev_dt dt_Rows_add_0 31 rfl) ?_
  refine ev_iast (ev_dt dt_Rows_add_0 32 rfl) ev_up_s (by omega) (by decide) ?_
  refine ev_aload_0 (ev_dt dt_Rows_add_0 33 rfl) ?_
  refine ev_get (ev_dt dt_Rows_add_0 34 rfl) g_Rows_17_1 ((ev_up_n (by omega)).trans ((ev_up_n (by omega)).trans ((ev_up_n (by omega)).trans ((ev_up_n (by omega)).trans hR.1)))) rfl ?_
  refine ev_aload_0 (ev_dt dt_Rows_add_0 35 rfl) ?_
  refine ev_get (ev_dt dt_Rows_add_0 36 rfl) g_Rows_20_1 ((ev_up_n (by omega)).trans ((ev_up_n (by omega)).trans ((ev_up_n (by omega)).trans ((ev_up_n (by omega)).trans hR.1)))) rfl ?_
  refine ev_aald (t := 5) (ev_dt dt_Rows_add_0 37 rfl) rfl rfl ((ev_up_n (by omega)).trans ((ev_up_n (by omega)).trans ((ev_up_n (by omega)).trans ((ev_up_n (by omega)).trans hR.2.2.1)))) (by omega) (by decide) (rw_v (by omega)) ?_
  refine ev_ic3 (ev_dt dt_Rows_add_0 38 rfl) ?_
  refine ev_iload_4 (ev_dt dt_Rows_add_0 39 rfl) ?_
  refine ev_iast (ev_dt dt_Rows_add_0 40 rfl) ev_up_s (by omega) (by decide) ?_
  refine ev_aload_0 (ev_dt dt_Rows_add_0 41 rfl) ?_
  refine ev_dup (ev_dt dt_Rows_add_0 42 rfl) rfl ?_
  refine ev_get (ev_dt dt_Rows_add_0 43 rfl) g_Rows_20_1 ((ev_up_n (by omega)).trans ((ev_up_n (by omega)).trans ((ev_up_n (by omega)).trans ((ev_up_n (by omega)).trans ((ev_up_n (by omega)).trans hR.1))))) rfl ?_
  refine ev_ic1 (ev_dt dt_Rows_add_0 44 rfl) ?_
  refine ev_addn (ev_dt dt_Rows_add_0 45 rfl) ?_
  refine ev_put [.ref (r + 1), .ref (r + 2), .int (nI (c + 1)), .int (nI m)] (ev_dt dt_Rows_add_0 46 rfl) p_Rows_20_1 ((ev_up_n (by omega)).trans ((ev_up_n (by omega)).trans ((ev_up_n (by omega)).trans ((ev_up_n (by omega)).trans ((ev_up_n (by omega)).trans hR.1))))) rfl rfl rfl rfl ?_
  refine ev_aload_0 (ev_dt dt_Rows_add_0 47 rfl) ?_
  refine ev_dup (ev_dt dt_Rows_add_0 48 rfl) rfl ?_
  refine ev_get (ev_dt dt_Rows_add_0 49 rfl) g_Rows_24_1 ev_up_s rfl ?_
  refine ev_ic1 (ev_dt dt_Rows_add_0 50 rfl) ?_
  refine ev_addn (ev_dt dt_Rows_add_0 51 rfl) ?_
  refine ev_put [.ref (r + 1), .ref (r + 2), .int (nI (c + 1)), .int (nI (m + 1))] (ev_dt dt_Rows_add_0 52 rfl) p_Rows_24_1 ev_up_s rfl rfl rfl rfl ?_
  refine ev_iload_5 (ev_dt dt_Rows_add_0 53 rfl) ?_
  refine ev_ireturn (ev_dt dt_Rows_add_0 54 rfl) rfl rfl (kk _ ⟨ev_up_s, ((ev_up_n (by omega)).trans ((ev_up_n (by omega)).trans ((ev_up_n (by omega)).trans ((ev_up_n (by omega)).trans ((ev_up_n (by omega)).trans ((ev_up_n (by omega)).trans ev_up_s)))))), ((ev_up_n (by omega)).trans ((ev_up_n (by omega)).trans ((ev_up_n (by omega)).trans ((ev_up_n (by omega)).trans ((ev_up_n (by omega)).trans ((ev_up_n (by omega)).trans ((ev_up_n (by omega)).trans hR.2.2.1))))))), fun i hi => ?_⟩ (fI.tr (fI.tr (fI.tr (fI.tr (fI.tr (fI.tr (fI.tr fI.rf (fI.up (by omega) (by omega))) (fI.up (by omega) (by omega))) (fI.up (by omega) (by omega))) (fI.up (by omega) (by omega))) (fI.up (by omega) (by omega))) (fI.up (by omega) (by omega))) (fI.up (by omega) (by omega))))
  by_cases e : i = c
  · rw [e]; dsimp only; rw [if_pos rfl]; exact ((ev_up_n (by omega)).trans ((ev_up_n (by omega)).trans ev_up_s))
  · dsimp only; rw [if_neg e]; exact ((ev_up_n (by omega)).trans ((ev_up_n (by omega)).trans ((ev_up_n (by omega)).trans ((ev_up_n (by omega)).trans ((ev_up_n (by omega)).trans ((ev_up_n (by omega)).trans ((ev_up_n (by omega)).trans (hR.2.2.2 i hi))))))))
theorem t_Rows_drop {r c m g : Nat} {nu : Nat → Int32} {V : Nat → Nat → Int32} (hc : c < 24) (hg : g ≤ c) (hR : RwAt E r (c + 1) m nu V h) (kk : ∀ h' nu' V', RwAt E r c m nu' V' h' → fI r 27 h h' → (∀ i, i < c → if g ≤ i then nu' i = nu (i + 1) ∧ ∀ l, l < 4 → V' i l = V (i + 1) l else nu' i = nu i ∧ ∀ l, l < 4 → V' i l = V i l) → Q (.returned none) h' sz k n) : Ev E m_Rows_drop (d + 1) 0 [some (.ref r), some (.int (nI g)), none] [] h sz k n Q := by
  have loop : ∀ m' j h' nu' V', j + m' = c → g ≤ j → RwAt E r c m nu' V' h' → fI r 27 h h' → (∀ i, i < 24 → if g ≤ i ∧ i < j then nu' i = nu (i + 1) ∧ ∀ l, l < 4 → V' i l = V (i + 1) l else nu' i = nu i ∧ ∀ l, l < 4 → V' i l = V i l) → Ev E m_Rows_drop (d + 1) 12 [some (.ref r), some (.int (nI g)), some (.int (nI j))] [] h' sz k n Q := by
    intro m'
    induction m' with
    | zero =>
      intro j h' nu' V' hj hgj hR' hF hI
      refine ev_iload_2 (ev_dt dt_Rows_drop_0 8 rfl) ?_
      refine ev_aload_0 (ev_dt dt_Rows_drop_0 9 rfl) ?_
      refine ev_get (ev_dt dt_Rows_drop_0 10 rfl) g_Rows_20_1 hR'.1 rfl ?_
      refine ev_icmp_geT (tgt := 60) (ev_dt dt_Rows_drop_0 11 rfl) (by decide) (nI_le (by omega) (by omega)) ?_
      obtain rfl : j = c := by omega
      exact ev_return (ev_dt dt_Rows_drop_0 38 rfl) rfl (kk h' nu' V' hR' hF (fun i hi => by have := hI i (by omega); simpa [show i < j by omega] using this))
    | succ m' ih =>
      intro j h' nu' V' hj hgj hR' hF hI
      refine ev_iload_2 (ev_dt dt_Rows_drop_0 8 rfl) ?_
      refine ev_aload_0 (ev_dt dt_Rows_drop_0 9 rfl) ?_
      refine ev_get (ev_dt dt_Rows_drop_0 10 rfl) g_Rows_20_1 hR'.1 rfl ?_
      refine ev_icmp_geF (tgt := 60) (ev_dt dt_Rows_drop_0 11 rfl) (by decide) (nI_ge (by omega) (by omega)) ?_
      refine ev_aload_0 (ev_dt dt_Rows_drop_0 12 rfl) ?_
      refine ev_get (ev_dt dt_Rows_drop_0 13 rfl) g_Rows_9_1 hR'.1 rfl ?_
      refine ev_iload_2 (ev_dt dt_Rows_drop_0 14 rfl) ?_
      refine ev_aload_0 (ev_dt dt_Rows_drop_0 15 rfl) ?_
      refine ev_get (ev_dt dt_Rows_drop_0 16 rfl) g_Rows_9_1 hR'.1 rfl ?_
      refine ev_iload_2 (ev_dt dt_Rows_drop_0 17 rfl) ?_
      refine ev_ic1 (ev_dt dt_Rows_drop_0 18 rfl) ?_
      refine ev_addn (ev_dt dt_Rows_drop_0 19 rfl) ?_
      refine ev_iald (ev_dt dt_Rows_drop_0 20 rfl) hR'.2.1 (by omega) (by decide) rfl ?_
      refine ev_iast (ev_dt dt_Rows_drop_0 21 rfl) hR'.2.1 (by omega) (by decide) ?_
      refine ev_aload_0 (ev_dt dt_Rows_drop_0 22 rfl) ?_
      refine ev_get (ev_dt dt_Rows_drop_0 23 rfl) g_Rows_17_1 ((ev_up_n (by omega)).trans hR'.1) rfl ?_
      refine ev_iload_2 (ev_dt dt_Rows_drop_0 24 rfl) ?_
      refine ev_ic1 (ev_dt dt_Rows_drop_0 25 rfl) ?_
      refine ev_addn (ev_dt dt_Rows_drop_0 26 rfl) ?_
      refine ev_aald (t := 5) (ev_dt dt_Rows_drop_0 27 rfl) rfl rfl ((ev_up_n (by omega)).trans hR'.2.2.1) (by omega) (by decide) (rw_v (by omega)) ?_
      refine ev_ic0 (ev_dt dt_Rows_drop_0 28 rfl) ?_
      refine ev_aload_0 (ev_dt dt_Rows_drop_0 29 rfl) ?_
      refine ev_get (ev_dt dt_Rows_drop_0 30 rfl) g_Rows_17_1 ((ev_up_n (by omega)).trans hR'.1) rfl ?_
      refine ev_iload_2 (ev_dt dt_Rows_drop_0 31 rfl) ?_
      refine ev_aald (t := 5) (ev_dt dt_Rows_drop_0 32 rfl) rfl rfl ((ev_up_n (by omega)).trans hR'.2.2.1) (by omega) (by decide) (rw_v (by omega)) ?_
      refine ev_ic0 (ev_dt dt_Rows_drop_0 33 rfl) ?_
      refine ev_ic4 (ev_dt dt_Rows_drop_0 34 rfl) ?_
      refine ev_copy (ev_dt dt_Rows_drop_0 35 rfl) a_Rows_27 ((ev_up_n (by omega)).trans (hR'.2.2.2 _ (by omega))) ((ev_up_n (by omega)).trans (hR'.2.2.2 _ (by omega))) (by decide) (by decide) (by decide) (by decide) rfl ?_
      refine ev_inc1_2 (ev_dt dt_Rows_drop_0 36 rfl) (by decide) rfl ?_
      refine ev_goto (tgt := 12) (ev_dt dt_Rows_drop_0 37 rfl) (by decide) ?_
      refine ih (j + 1) _ (upd nu' j (nu' (j + 1))) (fun i => if i = j then va_cpy (V' (j + 1)) (V' j) 0 0 4 else V' i) (by omega) (by omega) ⟨((ev_up_n (by omega)).trans ((ev_up_n (by omega)).trans hR'.1)), ((ev_up_n (by omega)).trans ev_up_s), ((ev_up_n (by omega)).trans ((ev_up_n (by omega)).trans hR'.2.2.1)), fun i hi => ?_⟩ (fI.tr (fI.tr hF (fI.up (by omega) (by omega))) (fI.up (by omega) (by omega))) (fun i hi => ?_)
      · by_cases e : i = j
        · rw [e]; dsimp only; rw [if_pos rfl]; exact ev_up_s
        · dsimp only; rw [if_neg e]; exact ((ev_up_n (by omega)).trans ((ev_up_n (by omega)).trans (hR'.2.2.2 i hi)))
      · have h0 := hI i hi
        by_cases e : i = j
        · subst e
          have h1 := hI (i + 1) (by omega)
          rw [if_neg (by omega)] at h1
          rw [if_pos ⟨by omega, by omega⟩, pk_us, if_pos rfl]
          refine ⟨h1.1, fun l hl => ?_⟩
          rw [pk_cpy_in (by omega) (by omega), ← h1.2 l hl]
          simp
        · rw [pk_un e, if_neg e]
          by_cases e2 : g ≤ i ∧ i < j
          · rw [if_pos e2] at h0; rw [if_pos ⟨e2.1, by omega⟩]; exact h0
          · rw [if_neg e2] at h0; rw [if_neg (by omega)]; exact h0
  refine ev_aload_0 (ev_dt dt_Rows_drop_0 0 rfl) ?_
  refine ev_dup (ev_dt dt_Rows_drop_0 1 rfl) rfl ?_
  refine ev_get (ev_dt dt_Rows_drop_0 2 rfl) g_Rows_20_1 hR.1 rfl ?_
  refine ev_ic1 (ev_dt dt_Rows_drop_0 3 rfl) ?_
  refine ev_isub (ev_dt dt_Rows_drop_0 4 rfl) (nI_sub1 _) ?_
  refine ev_put [.ref (r + 1), .ref (r + 2), .int (nI c), .int (nI m)] (ev_dt dt_Rows_drop_0 5 rfl) p_Rows_20_1 hR.1 rfl rfl rfl rfl ?_
  refine ev_iload_1 (ev_dt dt_Rows_drop_0 6 rfl) ?_
  refine ev_istore_2 (ev_dt dt_Rows_drop_0 7 rfl) (by decide) rfl ?_
  exact loop (c - g) g _ nu V (by omega) (by omega) ⟨ev_up_s, (ev_up_n (by omega)).trans hR.2.1, (ev_up_n (by omega)).trans hR.2.2.1, fun i hi => (ev_up_n (by omega)).trans (hR.2.2.2 i hi)⟩ (fI.up (by omega) (by omega)) (fun i hi => by rw [if_neg (by omega)]; exact ⟨rfl, fun _ _ => rfl⟩)
theorem CdAt.push {E : ev_E} {a c : Nat} {on op th : Nat → Int32} {x y v : Int32} {h : ev_h} : CdAt E a (c + 1) (upd on c x) (upd op c y) (upd th c v) (ev_up (ev_up (ev_up (ev_up h (a + 1) (iA E 4 (upd on c x))) (a + 2) (iA E 4 (upd op c y))) (a + 3) (iA E 4 (upd th c v))) a (oB 3 [.ref (a + 1), .ref (a + 2), .ref (a + 3), .int (nI (c + 1))])) ∧
    fI a 4 h (ev_up (ev_up (ev_up (ev_up h (a + 1) (iA E 4 (upd on c x))) (a + 2) (iA E 4 (upd op c y))) (a + 3) (iA E 4 (upd th c v))) a (oB 3 [.ref (a + 1), .ref (a + 2), .ref (a + 3), .int (nI (c + 1))])) :=
  ⟨⟨ev_up_s, (ev_up_n (by omega)).trans ((ev_up_n (by omega)).trans ((ev_up_n (by omega)).trans ev_up_s)), (ev_up_n (by omega)).trans ((ev_up_n (by omega)).trans ev_up_s), (ev_up_n (by omega)).trans ev_up_s⟩, (((fI.up (by omega) (by omega)).tr (fI.up (by omega) (by omega))).tr (fI.up (by omega) (by omega))).tr (fI.up (by omega) (by omega))⟩
theorem CdAt.clr {E : ev_E} {a c : Nat} {on op th : Nat → Int32} {h : ev_h} (hL : CdAt E a c on op th h) : CdAt E a 0 on op th (ev_up h a (oB 3 [.ref (a + 1), .ref (a + 2), .ref (a + 3), .int (nI 0)])) ∧ fI a 4 h (ev_up h a (oB 3 [.ref (a + 1), .ref (a + 2), .ref (a + 3), .int (nI 0)])) :=
  ⟨⟨ev_up_s, (ev_up_n (by omega)).trans hL.2.1, (ev_up_n (by omega)).trans hL.2.2.1, (ev_up_n (by omega)).trans hL.2.2.2⟩, fI.up (by omega) (by omega)⟩
theorem t_Conditions_copyFrom {a b c c2 : Nat} {on op th on2 op2 th2 : Nat → Int32} (hc : c2 ≤ 4) (hab : a + 4 ≤ b ∨ b + 4 ≤ a) (hL : CdAt E a c on op th h) (hB : CdAt E b c2 on2 op2 th2 h) (kk : ∀ h' on' op' th', CdAt E a c2 on' op' th' h' → fI a 4 h h' → (∀ i, i < c2 → on' i = on2 i ∧ op' i = op2 i ∧ th' i = th2 i) → Q (.returned none) h' sz k n) : Ev E m_Conditions_copyFrom (d + 1) 0 [some (.ref a), some (.ref b), none] [] h sz k n Q := by
  have loop : ∀ m' j h' on' op' th', j + m' = c2 → CdAt E a j on' op' th' h' → fI a 4 h h' → (∀ i, i < j → on' i = on2 i ∧ op' i = op2 i ∧ th' i = th2 i) → Ev E m_Conditions_copyFrom (d + 1) 6 [some (.ref a), some (.ref b), some (.int (nI j))] [] h' sz k n Q := by
    intro m'
    induction m' with
    | zero =>
      intro j h' on' op' th' hj hL' hF hI
      have hB' : CdAt E b c2 on2 op2 th2 h' := hB.kept (fun z a b => hF z (by omega))
      refine ev_iload_2 (ev_dt dt_Conditions_copyFrom_0 4 rfl) ?_
      refine ev_aload_1 (ev_dt dt_Conditions_copyFrom_0 5 rfl) ?_
      refine ev_get (ev_dt dt_Conditions_copyFrom_0 6 rfl) g_Conditions_21_3 hB'.1 rfl ?_
      refine ev_icmp_geT (tgt := 42) (ev_dt dt_Conditions_copyFrom_0 7 rfl) (by decide) (nI_le (by omega) (by omega)) ?_
      obtain rfl : j = c2 := by omega
      exact ev_return (ev_dt dt_Conditions_copyFrom_0 24 rfl) rfl (kk h' on' op' th' hL' hF hI)
    | succ m' ih =>
      intro j h' on' op' th' hj hL' hF hI
      have hB' : CdAt E b c2 on2 op2 th2 h' := hB.kept (fun z a b => hF z (by omega))
      refine ev_iload_2 (ev_dt dt_Conditions_copyFrom_0 4 rfl) ?_
      refine ev_aload_1 (ev_dt dt_Conditions_copyFrom_0 5 rfl) ?_
      refine ev_get (ev_dt dt_Conditions_copyFrom_0 6 rfl) g_Conditions_21_3 hB'.1 rfl ?_
      refine ev_icmp_geF (tgt := 42) (ev_dt dt_Conditions_copyFrom_0 7 rfl) (by decide) (nI_ge (by omega) (by omega)) ?_
      refine ev_aload_0 (ev_dt dt_Conditions_copyFrom_0 8 rfl) ?_
      refine ev_aload_1 (ev_dt dt_Conditions_copyFrom_0 9 rfl) ?_
      refine ev_get (ev_dt dt_Conditions_copyFrom_0 10 rfl) g_Conditions_9_3 hB'.1 rfl ?_
      refine ev_iload_2 (ev_dt dt_Conditions_copyFrom_0 11 rfl) ?_
      refine ev_iald (ev_dt dt_Conditions_copyFrom_0 12 rfl) hB'.2.1 (by omega) (by decide) rfl ?_
      refine ev_aload_1 (ev_dt dt_Conditions_copyFrom_0 13 rfl) ?_
      refine ev_get (ev_dt dt_Conditions_copyFrom_0 14 rfl) g_Conditions_15_3 hB'.1 rfl ?_
      refine ev_iload_2 (ev_dt dt_Conditions_copyFrom_0 15 rfl) ?_
      refine ev_iald (ev_dt dt_Conditions_copyFrom_0 16 rfl) hB'.2.2.1 (by omega) (by decide) rfl ?_
      refine ev_aload_1 (ev_dt dt_Conditions_copyFrom_0 17 rfl) ?_
      refine ev_get (ev_dt dt_Conditions_copyFrom_0 18 rfl) g_Conditions_18_3 hB'.1 rfl ?_
      refine ev_iload_2 (ev_dt dt_Conditions_copyFrom_0 19 rfl) ?_
      refine ev_iald (ev_dt dt_Conditions_copyFrom_0 20 rfl) hB'.2.2.2 (by omega) (by decide) rfl ?_
      refine ev_callV (ev_dt dt_Conditions_copyFrom_0 21 rfl) v_Conditions_28_3 hL'.1 [.int (on2 j), .int (op2 j), .int (th2 j)] rfl np_Conditions_add rfl (ev_lk_of (j := 0) rfl rfl) (t_Conditions_add (by omega) hL' (ev_r0 ?_))
      refine ev_inc1_2 (ev_dt dt_Conditions_copyFrom_0 22 rfl) (by decide) rfl ?_
      refine ev_goto (tgt := 6) (ev_dt dt_Conditions_copyFrom_0 23 rfl) (by decide) ?_
      obtain ⟨hL2, hF2⟩ := CdAt.push (E := E) (a := a) (c := j) (on := on') (op := op') (th := th') (x := on2 j) (y := op2 j) (v := th2 j) (h := h')
      exact ih (j + 1) _ _ _ _ (by omega) hL2 (hF.tr hF2) (fun i hi => by
        by_cases e : i = j
        · rw [e, pk_us, pk_us, pk_us]; exact ⟨rfl, rfl, rfl⟩
        · rw [pk_un e, pk_un e, pk_un e]; exact hI i (by omega))
  refine ev_aload_0 (ev_dt dt_Conditions_copyFrom_0 0 rfl) ?_
  refine ev_callV (ev_dt dt_Conditions_copyFrom_0 1 rfl) v_Conditions_25_3 hL.1 [] rfl np_Conditions_clear rfl (ev_lk_of (j := 0) rfl rfl) (t_Conditions_clear hL (ev_r0 ?_))
  refine ev_ic0 (ev_dt dt_Conditions_copyFrom_0 2 rfl) ?_
  refine ev_istore_2 (ev_dt dt_Conditions_copyFrom_0 3 rfl) (by decide) rfl ?_
  obtain ⟨hL2, hF2⟩ := hL.clr
  exact loop c2 0 _ on op th (by omega) hL2 hF2 (fun i hi => absurd hi (Nat.not_lt_zero _))
theorem t_Question_ask {a b c c2 y : Nat} {s0 : Int32} {x : Value} {on op th on2 op2 th2 : Nat → Int32} (hc : c2 ≤ 4) (hab : b + 4 ≤ a) (ho : h a = some (oB 4 [x, .ref (a + 1), .ref (a + 5), .ref (a + 7), .int s0])) (hL : CdAt E (a + 1) c on op th h) (hB : CdAt E b c2 on2 op2 th2 h) (kk : ∀ h' on' op' th', h' a = some (oB 4 [.ref y, .ref (a + 1), .ref (a + 5), .ref (a + 7), .int (-1)]) → CdAt E (a + 1) c2 on' op' th' h' → fI a 5 h h' → (∀ i, i < c2 → on' i = on2 i ∧ op' i = op2 i ∧ th' i = th2 i) → Q (.returned none) h' sz k n) : Ev E m_Question_ask (d + 2) 0 [some (.ref a), some (.ref y), some (.ref b)] [] h sz k n Q := by
  refine ev_aload_0 (ev_dt dt_Question_ask_0 0 rfl) ?_
  refine ev_aload_1 (ev_dt dt_Question_ask_0 1 rfl) ?_
  refine ev_put [.ref y, .ref (a + 1), .ref (a + 5), .ref (a + 7), .int s0] (ev_dt dt_Question_ask_0 2 rfl) p_Question_9_4 ho rfl rfl rfl rfl ?_
  refine ev_aload_0 (ev_dt dt_Question_ask_0 3 rfl) ?_
  refine ev_get (ev_dt dt_Question_ask_0 4 rfl) g_Question_18_4 ev_up_s rfl ?_
  refine ev_aload_2 (ev_dt dt_Question_ask_0 5 rfl) ?_
  refine ev_callV (ev_dt dt_Question_ask_0 6 rfl) v_Question_36_3 ((ev_up_n (by omega)).trans hL.1) [.ref b] rfl np_Conditions_copyFrom rfl (ev_lk_of (j := 1) rfl rfl) (t_Conditions_copyFrom (d := d) (a := a + 1) hc (by omega) (hL.kept (fun z h1 h2 => ev_up_n (by omega))) (hB.kept (fun z h1 h2 => ev_up_n (by omega))) (fun h1 on' op' th' hL1 hF1 hI => ev_r0 ?_))
  refine ev_aload_0 (ev_dt dt_Question_ask_0 7 rfl) ?_
  refine ev_icm (ev_dt dt_Question_ask_0 8 rfl) ?_
  refine ev_put [.ref y, .ref (a + 1), .ref (a + 5), .ref (a + 7), .int (-1)] (ev_dt dt_Question_ask_0 9 rfl) p_Question_32_4 ((hF1 a (by omega)).trans ev_up_s) rfl rfl rfl rfl ?_
  exact ev_return (ev_dt dt_Question_ask_0 10 rfl) rfl (kk _ on' op' th' ev_up_s (hL1.kept (fun z h1 h2 => ev_up_n (by omega))) (((fI.up (by omega) (by omega)).tr (hF1.wide (by omega) (by omega))).tr (fI.up (by omega) (by omega))) hI)
end C8
end
section
/-! Reducing, in the class (written by gen_c9.py over walk.py). -/
/-- the list L stands in f from s on -/
def sg (f : Nat → Int32) : Nat → List Int32 → Prop
  | _, [] => True
  | s, x :: t => f s = x ∧ sg f (s + 1) t
theorem sg_shift {f f' : Nat → Int32} : ∀ (L : List Int32) (s s' : Nat), sg f s L → (∀ i, i < L.length → f' (s' + i) = f (s + i)) → sg f' s' L
  | [], _, _, _, _ => trivial
  | x :: t, s, s', h, hq => by
    refine ⟨?_, sg_shift t (s + 1) (s' + 1) h.2 (fun i hi => ?_)⟩
    · have := hq 0 (by simp)
      rw [Nat.add_zero, Nat.add_zero] at this
      rw [this]; exact h.1
    · have := hq (i + 1) (by simpa using hi)
      rw [show s' + 1 + i = s' + (i + 1) by omega, show s + 1 + i = s + (i + 1) by omega]; exact this
theorem sg_ext {f f' : Nat → Int32} {L : List Int32} {s : Nat} (h : sg f s L) (hq : ∀ x, s ≤ x → x < s + L.length → f' x = f x) : sg f' s L := sg_shift L s s h (fun i hi => hq _ (by omega) (by omega))
theorem sg_app {f : Nat → Int32} : ∀ (p q : List Int32) (s : Nat), sg f s p → sg f (s + p.length) q → sg f s (p ++ q)
  | [], q, s, _, h => h
  | x :: t, q, s, h, h2 => ⟨h.1, sg_app t q (s + 1) h.2 (by rw [show s + 1 + t.length = s + (x :: t).length by simp; omega]; exact h2)⟩
theorem sg_get {f : Nat → Int32} : ∀ (L : List Int32) (s i : Nat) (x : Int32), sg f s L → L[i]? = some x → f (s + i) = x
  | [], _, _, _, _, h => by simp at h
  | y :: t, s, 0, x, h, h2 => by
    simp at h2
    rw [Nat.add_zero, h.1]; exact h2
  | y :: t, s, i + 1, x, h, h2 => by
    rw [List.getElem?_cons_succ] at h2
    have := sg_get t (s + 1) i x h.2 h2
    rw [show s + (i + 1) = s + 1 + i by omega]; exact this
theorem sg_eq {f : Nat → Int32} : ∀ (p q : List Int32) (s t : Nat), sg f s p → sg f t q → p.length = q.length → (∀ i, i < p.length → f (s + i) = f (t + i)) → p = q
  | [], [], _, _, _, _, _, _ => rfl
  | [], y :: q, _, _, _, _, hl, _ => by simp at hl
  | x :: p, [], _, _, _, _, hl, _ => by simp at hl
  | x :: p, y :: q, s, t, hp, hq, hl, he => by
    have h0 := he 0 (by simp)
    rw [Nat.add_zero, Nat.add_zero, hp.1, hq.1] at h0
    rw [h0, sg_eq p q (s + 1) (t + 1) hp.2 hq.2 (by simpa using hl) (fun i hi => by
      have := he (i + 1) (by simpa using hi)
      rw [show s + 1 + i = s + (i + 1) by omega, show t + 1 + i = t + (i + 1) by omega]; exact this)]
/-- forms as they come out: not empty, and no DUAL of a DUAL at the head -/
def gf (L : List Int32) : Prop := ∃ x t, L = x :: t ∧ (x = nI 9 → ∃ y t', t = y :: t' ∧ y ≠ nI 9)
/-- sizes -/
def okZ (N : nod) (zs : Nat → Nat) (c : Nat) : Prop := ∀ n, n < c → zs n ≤ 40 ∧ (nK N n < 6 → zs n = 1) ∧ (nK N n = 9 → zs n = 1 + zs (nL N n)) ∧ (6 ≤ nK N n → nK N n < 9 → zs n = 1 + zs (nL N n) + zs (nQ N n))
theorem rd_c (x : Int32) (t : List Int32) : rd (x :: t) = if x = nI 9 then t else if x = nI 0 then nI 1 :: t else if x = nI 1 then nI 0 :: t else nI 9 :: x :: t := rfl
theorem gf_rd {p : List Int32} (h : gf p) : gf (rd p) ∧ (rd p).length ≤ p.length + 1 := by
  obtain ⟨x, t, rfl, h9⟩ := h
  rw [rd_c]
  by_cases e : x = nI 9
  · rw [if_pos e]
    obtain ⟨y, t', rfl, hy⟩ := h9 e
    exact ⟨⟨y, t', rfl, fun q => absurd q hy⟩, by simp⟩
  · rw [if_neg e]
    by_cases e0 : x = nI 0
    · rw [if_pos e0]; exact ⟨⟨_, _, rfl, fun q => absurd q (by decide +kernel)⟩, by simp⟩
    · rw [if_neg e0]
      by_cases e1 : x = nI 1
      · rw [if_pos e1]; exact ⟨⟨_, _, rfl, fun q => absurd q (by decide +kernel)⟩, by simp⟩
      · rw [if_neg e1]; exact ⟨⟨_, _, rfl, fun _ => ⟨x, t, rfl, e⟩⟩, by simp⟩
theorem k9 {k : Nat} (h : k < 9) : nI k ≠ nI 9 := fun e => by rw [nI_eq (by omega) (by omega)] at e; omega
theorem gf_rt {k : Nat} {cp cq : Int32} {p q : List Int32} (hk : k ≤ 9) (hp : gf p) (hq : gf q) : gf (rt k cp cq p q) ∧ (rt k cp cq p q).length ≤ p.length + 1 + (if k = 9 then 0 else q.length) := by
  unfold rt
  by_cases e9 : k = 9
  · rw [if_pos e9, if_pos e9]; have := gf_rd hp; exact ⟨this.1, by omega⟩
  · rw [if_neg e9, if_neg e9]
    split
    · exact ⟨hp, by omega⟩
    · split
      · rename_i h2
        refine ⟨⟨_, _, rfl, fun _ => ⟨_, _, rfl, k9 (by omega)⟩⟩, ?_⟩
        obtain ⟨x, t, rfl, -⟩ := hp
        obtain ⟨y, u, rfl, -⟩ := hq
        simp; omega
      · exact ⟨⟨_, _, rfl, fun z => absurd z (k9 (by omega))⟩, by simp; omega⟩
theorem gf_rf {N : nod} {zs : Nat → Nat} {cs : Nat → Int32} {c : Nat} (hZ : okZ N zs c) (hK : ∀ n, n < c → nK N n ≤ 9) (hT : ∀ n, n < c → ¬ nK N n < 6 → nL N n < n ∧ nQ N n < n) : ∀ n, n < c → gf (rf N cs n) ∧ (rf N cs n).length ≤ 4 * zs n := by
  intro n
  induction n using Nat.strongRecOn with
  | _ n ih =>
    intro hn
    obtain ⟨-, z1, z2, z3⟩ := hZ n hn
    by_cases hk : nK N n < 6
    · rw [rf_o hk, z1 hk]
      refine ⟨⟨_, _, rfl, fun q => absurd q (k9 (by omega))⟩, ?_⟩
      unfold ro
      split
      · simp
      · split
        · simp
        · split <;> simp
    · obtain ⟨hl, hq⟩ := hT n hn hk
      have a := ih _ hl (by omega)
      have b := ih _ hq (by omega)
      rw [rf_t hk ⟨hl, hq⟩]
      have g := gf_rt (k := nK N n) (cp := cs (nL N n)) (cq := cs (nQ N n)) (hK n hn) a.1 b.1
      refine ⟨g.1, ?_⟩
      by_cases e9 : nK N n = 9
      · rw [if_pos e9] at g; have := z2 e9; omega
      · rw [if_neg e9] at g; have := z3 (by omega) (by have := hK n hn; omega); omega
section C9
variable {E : ev_E} {d : Nat} {h : ev_h} {sz k n : Nat} {Q : ev_Q}
theorem t_moveBack {b s e y : Nat} {f : Nat → Int32} (h1 : y ≤ s) (h2 : s ≤ e) (h3 : e ≤ 160) (hb : h b = some (iA E 160 f)) (kk : Q (.returned (some (.int (nI (e - y))))) (ev_up h b (iA E 160 (va_cpy f f s (s - y) (e - s)))) sz k n) : Ev E m_Term_moveBack (d + 1) 0 [some (.ref b), some (.int (nI s)), some (.int (nI e)), some (.int (nI y))] [] h sz k n Q := by
  refine ev_aload_0 (ev_dt dt_Term_moveBack_0 0 rfl) ?_
  refine ev_iload_1 (ev_dt dt_Term_moveBack_0 1 rfl) ?_
  refine ev_aload_0 (ev_dt dt_Term_moveBack_0 2 rfl) ?_
  refine ev_iload_1 (ev_dt dt_Term_moveBack_0 3 rfl) ?_
  refine ev_iload_3 (ev_dt dt_Term_moveBack_0 4 rfl) ?_
  refine ev_isub (ev_dt dt_Term_moveBack_0 5 rfl) (nI_sub (by omega)) ?_
  refine ev_iload_2 (ev_dt dt_Term_moveBack_0 6 rfl) ?_
  refine ev_iload_1 (ev_dt dt_Term_moveBack_0 7 rfl) ?_
  refine ev_isub (ev_dt dt_Term_moveBack_0 8 rfl) (nI_sub (by omega)) ?_
  refine ev_copy (ev_dt dt_Term_moveBack_0 9 rfl) a_Term_67 hb hb (by decide) (by decide) (by omega) (by omega) rfl ?_
  refine ev_iload_2 (ev_dt dt_Term_moveBack_0 10 rfl) ?_
  refine ev_iload_3 (ev_dt dt_Term_moveBack_0 11 rfl) ?_
  refine ev_isub (ev_dt dt_Term_moveBack_0 12 rfl) (nI_sub (by omega)) ?_
  exact ev_ireturn (ev_dt dt_Term_moveBack_0 13 rfl) rfl rfl kk
theorem cpy_o {f g : Nat → Int32} {sp dp n j : Nat} (h : j < dp ∨ dp + n ≤ j) : va_cpy f g sp dp n j = g j := by simp only [va_cpy]; rw [if_neg (by omega)]
theorem sg_mb {f : Nat → Int32} {L : List Int32} {s e y : Nat} (h : sg f s L) (hy : y ≤ s) (hl : s + L.length = e) : sg (va_cpy f f s (s - y) (e - s)) (s - y) L := by
  refine sg_shift L s (s - y) h (fun i hi => ?_)
  rw [pk_cpy_in (by omega) (by omega)]
  congr 1
  omega
theorem mb_lo {f : Nat → Int32} {s e y z : Nat} (hz : z < s - y) : va_cpy f f s (s - y) (e - s) z = f z := cpy_o (Or.inl hz)
theorem t_reduceDual {b s e : Nat} {x : Int32} {t : List Int32} {f : Nat → Int32} (he : e = s + 2 + t.length) (h3 : e ≤ 160) (hb : h b = some (iA E 160 f)) (h9s : f s = nI 9) (hsg : sg f (s + 1) (x :: t)) (kk : ∀ f', (∀ z, z < s → f' z = f z) → sg f' s (rd (x :: t)) → Q (.returned (some (.int (nI (s + (rd (x :: t)).length))))) (ev_up h b (iA E 160 f')) sz k n) : Ev E m_Term_reduceDual (d + 2) 0 [some (.ref b), some (.int (nI s)), some (.int (nI e)), none] [] h sz k n Q := by
  refine ev_aload_0 (ev_dt dt_Term_reduceDual_0 0 rfl) ?_
  refine ev_iload_1 (ev_dt dt_Term_reduceDual_0 1 rfl) ?_
  refine ev_ic1 (ev_dt dt_Term_reduceDual_0 2 rfl) ?_
  refine ev_addn (ev_dt dt_Term_reduceDual_0 3 rfl) ?_
  refine ev_iald (ev_dt dt_Term_reduceDual_0 4 rfl) hb (by omega) (by decide) rfl ?_
  rw [hsg.1]
  refine ev_istore_3 (ev_dt dt_Term_reduceDual_0 5 rfl) (by decide) rfl ?_
  refine ev_iload_3 (ev_dt dt_Term_reduceDual_0 6 rfl) ?_
  refine ev_bipush (ev_dt dt_Term_reduceDual_0 7 rfl) bi_9 ?_
  refine ev_icmp_ne (tgt := 22) (ev_dt dt_Term_reduceDual_0 8 rfl) (by decide) (fun h9 => ?_) (fun h9 => ?_)
  · refine ev_iload_3 (ev_dt dt_Term_reduceDual_0 17 rfl) ?_
    refine ev_if_eq (tgt := 31) (ev_dt dt_Term_reduceDual_0 18 rfl) (by decide) (fun h0 => ?_) (fun h0 => ?_)
    · refine ev_aload_0 (ev_dt dt_Term_reduceDual_0 22 rfl) ?_
      refine ev_iload_1 (ev_dt dt_Term_reduceDual_0 23 rfl) ?_
      refine ev_ic1 (ev_dt dt_Term_reduceDual_0 24 rfl) ?_
      refine ev_addn (ev_dt dt_Term_reduceDual_0 25 rfl) ?_
      refine ev_iload_3 (ev_dt dt_Term_reduceDual_0 26 rfl) ?_
      refine ev_if_neF (tgt := 43) (ev_dt dt_Term_reduceDual_0 27 rfl) (by decide) h0 ?_
      refine ev_ic1 (ev_dt dt_Term_reduceDual_0 28 rfl) ?_
      refine ev_goto (tgt := 44) (ev_dt dt_Term_reduceDual_0 29 rfl) (by decide) ?_
      refine ev_iast (ev_dt dt_Term_reduceDual_0 31 rfl) hb (by omega) (by decide) ?_
      refine ev_aload_0 (ev_dt dt_Term_reduceDual_0 32 rfl) ?_
      refine ev_iload_1 (ev_dt dt_Term_reduceDual_0 33 rfl) ?_
      refine ev_ic1 (ev_dt dt_Term_reduceDual_0 34 rfl) ?_
      refine ev_addn (ev_dt dt_Term_reduceDual_0 35 rfl) ?_
      refine ev_iload_2 (ev_dt dt_Term_reduceDual_0 36 rfl) ?_
      refine ev_ic1 (ev_dt dt_Term_reduceDual_0 37 rfl) ?_
      refine ev_callS (ev_dt dt_Term_reduceDual_0 38 rfl) s_Term_60 [.ref b, .int (nI (s + 1)), .int (nI e), .int (nI 1)] rfl np_Term_moveBack rfl (ev_lk_of (j := 0) rfl rfl) (t_moveBack (d := d) (f := upd f (s + 1) (nI 1)) (by omega) (by omega) (by omega) ev_up_s (ev_r1 ?_))
      have hr : rd (x :: t) = nI 1 :: t := by rw [rd_c, if_neg h9, if_pos (h0.trans nI_0.symm)]
      have h2 : sg (upd f (s + 1) (nI 1)) (s + 1) (nI 1 :: t) := ⟨pk_us, sg_ext hsg.2 (fun z q1 q2 => pk_un (by omega))⟩
      have h3 := sg_mb h2 (show 1 ≤ s + 1 by omega) (show s + 1 + (nI 1 :: t).length = e by simp; omega)
      rw [ev_up_up]
      rw [show e - 1 = s + (rd (x :: t)).length by rw [hr]; simp; omega]
      exact ev_ireturn (ev_dt dt_Term_reduceDual_0 39 rfl) rfl rfl (kk _ (fun z hz => by rw [mb_lo (by omega), pk_un (by omega)]) (by rw [hr]; exact h3))
    · refine ev_iload_3 (ev_dt dt_Term_reduceDual_0 19 rfl) ?_
      refine ev_ic1 (ev_dt dt_Term_reduceDual_0 20 rfl) ?_
      refine ev_icmp_ne (tgt := 55) (ev_dt dt_Term_reduceDual_0 21 rfl) (by decide) (fun h1 => ?_) (fun h1 => ?_)
      · refine ev_iload_2 (ev_dt dt_Term_reduceDual_0 40 rfl) ?_
        have hr : rd (x :: t) = nI 9 :: x :: t := by rw [rd_c, if_neg h9, if_neg (fun q => h0 (q.trans nI_0)), if_neg h1]
        rw [show e = s + (rd (x :: t)).length by rw [hr]; simp; omega]
        have k2 := kk f (fun _ _ => rfl) (by rw [hr]; exact ⟨h9s, hsg⟩)
        rw [ev_up_self hb] at k2
        exact ev_ireturn (ev_dt dt_Term_reduceDual_0 41 rfl) rfl rfl k2
      · refine ev_aload_0 (ev_dt dt_Term_reduceDual_0 22 rfl) ?_
        refine ev_iload_1 (ev_dt dt_Term_reduceDual_0 23 rfl) ?_
        refine ev_ic1 (ev_dt dt_Term_reduceDual_0 24 rfl) ?_
        refine ev_addn (ev_dt dt_Term_reduceDual_0 25 rfl) ?_
        refine ev_iload_3 (ev_dt dt_Term_reduceDual_0 26 rfl) ?_
        refine ev_if_neT (tgt := 43) (ev_dt dt_Term_reduceDual_0 27 rfl) (by decide) (fun q => h0 q) ?_
        refine ev_ic0 (ev_dt dt_Term_reduceDual_0 30 rfl) ?_
        refine ev_iast (ev_dt dt_Term_reduceDual_0 31 rfl) hb (by omega) (by decide) ?_
        refine ev_aload_0 (ev_dt dt_Term_reduceDual_0 32 rfl) ?_
        refine ev_iload_1 (ev_dt dt_Term_reduceDual_0 33 rfl) ?_
        refine ev_ic1 (ev_dt dt_Term_reduceDual_0 34 rfl) ?_
        refine ev_addn (ev_dt dt_Term_reduceDual_0 35 rfl) ?_
        refine ev_iload_2 (ev_dt dt_Term_reduceDual_0 36 rfl) ?_
        refine ev_ic1 (ev_dt dt_Term_reduceDual_0 37 rfl) ?_
        refine ev_callS (ev_dt dt_Term_reduceDual_0 38 rfl) s_Term_60 [.ref b, .int (nI (s + 1)), .int (nI e), .int (nI 1)] rfl np_Term_moveBack rfl (ev_lk_of (j := 0) rfl rfl) (t_moveBack (d := d) (f := upd f (s + 1) (nI 0)) (by omega) (by omega) (by omega) ev_up_s (ev_r1 ?_))
        have hr : rd (x :: t) = nI 0 :: t := by rw [rd_c, if_neg h9, if_neg (fun q => h0 (q.trans nI_0)), if_pos h1]
        have h2 : sg (upd f (s + 1) (nI 0)) (s + 1) (nI 0 :: t) := ⟨pk_us, sg_ext hsg.2 (fun z q1 q2 => pk_un (by omega))⟩
        have h3 := sg_mb h2 (show 1 ≤ s + 1 by omega) (show s + 1 + (nI 0 :: t).length = e by simp; omega)
        rw [ev_up_up]
        rw [show e - 1 = s + (rd (x :: t)).length by rw [hr]; simp; omega]
        exact ev_ireturn (ev_dt dt_Term_reduceDual_0 39 rfl) rfl rfl (kk _ (fun z hz => by rw [mb_lo (by omega), pk_un (by omega)]) (by rw [hr]; exact h3))
  · refine ev_aload_0 (ev_dt dt_Term_reduceDual_0 9 rfl) ?_
    refine ev_iload_1 (ev_dt dt_Term_reduceDual_0 10 rfl) ?_
    refine ev_ic2 (ev_dt dt_Term_reduceDual_0 11 rfl) ?_
    refine ev_addn (ev_dt dt_Term_reduceDual_0 12 rfl) ?_
    refine ev_iload_2 (ev_dt dt_Term_reduceDual_0 13 rfl) ?_
    refine ev_ic2 (ev_dt dt_Term_reduceDual_0 14 rfl) ?_
    refine ev_callS (ev_dt dt_Term_reduceDual_0 15 rfl) s_Term_60 [.ref b, .int (nI (s + 2)), .int (nI e), .int (nI 2)] rfl np_Term_moveBack rfl (ev_lk_of (j := 0) rfl rfl) (t_moveBack (d := d) (by omega) (by omega) (by omega) hb (ev_r1 ?_))
    have hr : rd (x :: t) = t := by rw [rd_c, if_pos h9]
    have h3 := sg_mb (s := s + 2) hsg.2 (show 2 ≤ s + 2 by omega) (show s + 2 + t.length = e by omega)
    rw [show e - 2 = s + (rd (x :: t)).length by rw [hr]; omega]
    exact ev_ireturn (ev_dt dt_Term_reduceDual_0 16 rfl) rfl rfl (kk _ (fun z hz => mb_lo (by omega)) (by rw [hr]; exact h3))
theorem t_areAlike {b a1 a2 e : Nat} {p q : List Int32} {f : Nat → Int32} (h2 : a2 = a1 + p.length) (he : e = a2 + q.length) (h3 : e ≤ 160) (hb : h b = some (iA E 160 f)) (hp : sg f a1 p) (hq : sg f a2 q) (kt : p = q → Q (.returned (some (.int (nI 1)))) h sz k n) (kf : p ≠ q → Q (.returned (some (.int (nI 0)))) h sz k n) : Ev E m_Term_areAlike d 0 [some (.ref b), some (.int (nI a1)), some (.int (nI a2)), some (.int (nI e)), none, none] [] h sz k n Q := by
  refine ev_iload_2 (ev_dt dt_Term_areAlike_0 0 rfl) ?_
  refine ev_iload_1 (ev_dt dt_Term_areAlike_0 1 rfl) ?_
  refine ev_isub (ev_dt dt_Term_areAlike_0 2 rfl) (nI_sub (by omega)) ?_
  refine ev_istore_4 (ev_dt dt_Term_areAlike_0 3 rfl) (by decide) rfl ?_
  refine ev_iload_3 (ev_dt dt_Term_areAlike_0 4 rfl) ?_
  refine ev_iload_2 (ev_dt dt_Term_areAlike_0 5 rfl) ?_
  refine ev_isub (ev_dt dt_Term_areAlike_0 6 rfl) (nI_sub (by omega)) ?_
  refine ev_iload_4 (ev_dt dt_Term_areAlike_0 7 rfl) ?_
  refine ev_icmp_eq (tgt := 15) (ev_dt dt_Term_areAlike_0 8 rfl) (by decide) (fun hl => ?_) (fun hl => ?_)
  · have hl' : e - a2 = a2 - a1 := (nI_eq (by omega) (by omega)).mp hl
    have hll : p.length = q.length := by omega
    have loop : ∀ m' j, j + m' = a2 - a1 → (∀ i, i < j → f (a1 + i) = f (a2 + i)) → Ev E m_Term_areAlike d 18 [some (.ref b), some (.int (nI a1)), some (.int (nI a2)), some (.int (nI e)), some (.int (nI (a2 - a1))), some (.int (nI j))] [] h sz k n Q := by
      intro m'
      induction m' with
      | zero =>
        intro j hj hI
        refine ev_iload_5 (ev_dt dt_Term_areAlike_0 13 rfl) ?_
        refine ev_iload_4 (ev_dt dt_Term_areAlike_0 14 rfl) ?_
        refine ev_icmp_geT (tgt := 48) (ev_dt dt_Term_areAlike_0 15 rfl) (by decide) (nI_le (by omega) (by omega)) ?_
        refine ev_ic1 (ev_dt dt_Term_areAlike_0 31 rfl) ?_
        exact ev_ireturn (ev_dt dt_Term_areAlike_0 32 rfl) rfl bz1 (kt (sg_eq p q a1 a2 hp hq (by omega) (fun i hi => hI i (by omega))))
      | succ m' ih =>
        intro j hj hI
        refine ev_iload_5 (ev_dt dt_Term_areAlike_0 13 rfl) ?_
        refine ev_iload_4 (ev_dt dt_Term_areAlike_0 14 rfl) ?_
        refine ev_icmp_geF (tgt := 48) (ev_dt dt_Term_areAlike_0 15 rfl) (by decide) (nI_ge (by omega) (by omega)) ?_
        refine ev_aload_0 (ev_dt dt_Term_areAlike_0 16 rfl) ?_
        refine ev_iload_1 (ev_dt dt_Term_areAlike_0 17 rfl) ?_
        refine ev_iload_5 (ev_dt dt_Term_areAlike_0 18 rfl) ?_
        refine ev_addn (ev_dt dt_Term_areAlike_0 19 rfl) ?_
        refine ev_iald (ev_dt dt_Term_areAlike_0 20 rfl) hb (by omega) (by decide) rfl ?_
        refine ev_aload_0 (ev_dt dt_Term_areAlike_0 21 rfl) ?_
        refine ev_iload_2 (ev_dt dt_Term_areAlike_0 22 rfl) ?_
        refine ev_iload_5 (ev_dt dt_Term_areAlike_0 23 rfl) ?_
        refine ev_addn (ev_dt dt_Term_areAlike_0 24 rfl) ?_
        refine ev_iald (ev_dt dt_Term_areAlike_0 25 rfl) hb (by omega) (by decide) rfl ?_
        refine ev_icmp_eq (tgt := 42) (ev_dt dt_Term_areAlike_0 26 rfl) (by decide) (fun hx => ?_) (fun hx => ?_)
        · refine ev_inc1_5 (ev_dt dt_Term_areAlike_0 29 rfl) (by decide) rfl ?_
          refine ev_goto (tgt := 18) (ev_dt dt_Term_areAlike_0 30 rfl) (by decide) ?_
          exact ih (j + 1) (by omega) (fun i hi => by
          by_cases e : i = j
          · subst e; exact hx
          · exact hI i (by omega))
        · refine ev_ic0 (ev_dt dt_Term_areAlike_0 27 rfl) ?_
          exact ev_ireturn (ev_dt dt_Term_areAlike_0 28 rfl) rfl bz0 (kf (fun e => by
          subst e
          have g1 : p[j]? = some (p[j]'(by omega)) := List.getElem?_eq_getElem _
          exact hx ((sg_get p a1 j _ hp g1).trans (sg_get p a2 j _ hq g1).symm)))
    refine ev_ic0 (ev_dt dt_Term_areAlike_0 11 rfl) ?_
    refine ev_istore_5 (ev_dt dt_Term_areAlike_0 12 rfl) (by decide) rfl ?_
    exact loop (a2 - a1) 0 (by omega) (fun i hi => absurd hi (Nat.not_lt_zero _))
  · refine ev_ic0 (ev_dt dt_Term_areAlike_0 9 rfl) ?_
    exact ev_ireturn (ev_dt dt_Term_areAlike_0 10 rfl) rfl bz0 (kf (fun e => hl (by rw [nI_eq (by omega) (by omega)]; subst e; omega)))
theorem t_pullDualOut {b s c e kd : Nat} {tp tq : List Int32} {f : Nat → Int32} (hc2 : c = s + 1 + (nI 9 :: tp).length) (he : e = c + (nI 9 :: tq).length) (hl : e ≤ 160) (hb : h b = some (iA E 160 f)) (hks : f s = nI kd) (hp : sg f (s + 1) (nI 9 :: tp)) (hq : sg f c (nI 9 :: tq)) (kk : ∀ f', (∀ z, z < s → f' z = f z) → sg f' s (nI 9 :: nI kd :: (tp ++ tq)) → Q (.returned (some (.int (nI (s + (nI 9 :: nI kd :: (tp ++ tq)).length))))) (ev_up h b (iA E 160 f')) sz k n) : Ev E m_Term_pullDualOut (d + 2) 0 [some (.ref b), some (.int (nI s)), some (.int (nI c)), some (.int (nI e))] [] h sz k n Q := by
  have hc3 : s + 2 ≤ c := by simp at hc2; omega
  have hce : c + 1 ≤ e := by simp at he; omega
  refine ev_aload_0 (ev_dt dt_Term_pullDualOut_0 0 rfl) ?_
  refine ev_iload_1 (ev_dt dt_Term_pullDualOut_0 1 rfl) ?_
  refine ev_ic1 (ev_dt dt_Term_pullDualOut_0 2 rfl) ?_
  refine ev_addn (ev_dt dt_Term_pullDualOut_0 3 rfl) ?_
  refine ev_aload_0 (ev_dt dt_Term_pullDualOut_0 4 rfl) ?_
  refine ev_iload_1 (ev_dt dt_Term_pullDualOut_0 5 rfl) ?_
  refine ev_iald (ev_dt dt_Term_pullDualOut_0 6 rfl) hb (by omega) (by decide) rfl ?_
  refine ev_iast (ev_dt dt_Term_pullDualOut_0 7 rfl) hb (by omega) (by decide) ?_
  refine ev_aload_0 (ev_dt dt_Term_pullDualOut_0 8 rfl) ?_
  refine ev_iload_1 (ev_dt dt_Term_pullDualOut_0 9 rfl) ?_
  refine ev_bipush (ev_dt dt_Term_pullDualOut_0 10 rfl) bi_9 ?_
  refine ev_iast (ev_dt dt_Term_pullDualOut_0 11 rfl) ev_up_s (by omega) (by decide) ?_
  refine ev_aload_0 (ev_dt dt_Term_pullDualOut_0 12 rfl) ?_
  refine ev_iload_2 (ev_dt dt_Term_pullDualOut_0 13 rfl) ?_
  refine ev_ic1 (ev_dt dt_Term_pullDualOut_0 14 rfl) ?_
  refine ev_addn (ev_dt dt_Term_pullDualOut_0 15 rfl) ?_
  refine ev_iload_3 (ev_dt dt_Term_pullDualOut_0 16 rfl) ?_
  refine ev_ic1 (ev_dt dt_Term_pullDualOut_0 17 rfl) ?_
  refine ev_callS (ev_dt dt_Term_pullDualOut_0 18 rfl) s_Term_60 [.ref b, .int (nI (c + 1)), .int (nI e), .int (nI 1)] rfl np_Term_moveBack rfl (ev_lk_of (j := 0) rfl rfl) (t_moveBack (d := d) (f := upd (upd f (s + 1) (f s)) s (nI 9)) (by omega) (by omega) (by omega) ev_up_s (ev_r1 ?_))
  rw [ev_up_up, ev_up_up]
  have h1 : ∀ z, s + 2 ≤ z → upd (upd f (s + 1) (f s)) s (nI 9) z = f z := fun z hz => by rw [pk_un (by omega), pk_un (by omega)]
  have hq2 : sg (upd (upd f (s + 1) (f s)) s (nI 9)) (c + 1) tq := sg_ext hq.2 (fun z a b => h1 z (by omega))
  have h3 := sg_mb hq2 (show 1 ≤ c + 1 by omega) (show c + 1 + tq.length = e by simp at he; omega)
  refine ev_ireturn (ev_dt dt_Term_pullDualOut_0 19 rfl) rfl rfl ?_
  rw [show e - 1 = s + (nI 9 :: nI kd :: (tp ++ tq)).length by simp; simp at he hc2; omega]
  refine kk _ (fun z hz => by rw [mb_lo (by omega), pk_un (by omega), pk_un (by omega)]) ⟨?_, ?_, ?_⟩
  · rw [mb_lo (by omega), pk_us]
  · rw [mb_lo (by simp at hc2; omega), pk_un (by omega), pk_us]; exact hks
  · refine sg_app tp tq (s + 1 + 1) (sg_ext hp.2 (fun z a b => by rw [mb_lo (by simp at hc2; omega)]; exact h1 z (by omega))) ?_
    rw [show s + 1 + 1 + tp.length = c + 1 - 1 by simp at hc2; omega]; exact h3
end C9
end
section
/-! The reduced form of a node is put into the row of numbers (written by gen_c10.py over walk.py). -/
section C10
variable {E : ev_E} {d : Nat} {h : ev_h} {sz k n : Nat} {Q : ev_Q}
theorem ev_nd_cols {M : ev_M} {pc pc' ix : Nat} {ls : List (Option Value)} {st : List Value} {N : nod} {ed : Nat → Nat → Int32} {zs : Nat → Nat} {cs : Nat → Int32} {ad : Nat → Nat} {i : Nat} (hd : ev_d M pc (.getfield ix) 3 pc') (g6 : ev_gs M.1.cls ix 6 6) (g7 : ev_gs M.1.cls ix 7 5) (g8 : ev_gs M.1.cls ix 8 6) (g9 : ev_gs M.1.cls ix 9 5) (hN : NdAt E N ed zs cs ad i h) (kk : Ev E M d pc' ls (.int (cs i) :: st) h sz k n Q) : Ev E M d pc ls (.ref (ad i) :: st) h sz k n Q := by
  rcases hN with ⟨hk, hc, ho⟩ | ⟨hk, hc, ho, -⟩ | ⟨hk, hc, ho, -⟩ | ⟨hk, -, -, -, ho⟩
  · exact ev_get hd g6 ho rfl kk
  · exact ev_get hd g7 ho rfl kk
  · exact ev_get hd g8 ho rfl kk
  · exact ev_get hd g9 ho rfl kk
theorem ev_nd_size {M : ev_M} {pc pc' ix : Nat} {ls : List (Option Value)} {st : List Value} {N : nod} {ed : Nat → Nat → Int32} {zs : Nat → Nat} {cs : Nat → Int32} {ad : Nat → Nat} {i : Nat} (hd : ev_d M pc (.getfield ix) 3 pc') (g6 : ev_gs M.1.cls ix 6 5) (g7 : ev_gs M.1.cls ix 7 4) (g8 : ev_gs M.1.cls ix 8 5) (g9 : ev_gs M.1.cls ix 9 4) (hN : NdAt E N ed zs cs ad i h) (kk : Ev E M d pc' ls (.int (nI (zs i)) :: st) h sz k n Q) : Ev E M d pc ls (.ref (ad i) :: st) h sz k n Q := by
  rcases hN with ⟨hk, hc, ho⟩ | ⟨hk, hc, ho, -⟩ | ⟨hk, hc, ho, -⟩ | ⟨hk, -, -, -, ho⟩
  · exact ev_get hd g6 ho rfl kk
  · exact ev_get hd g7 ho rfl kk
  · exact ev_get hd g8 ho rfl kk
  · exact ev_get hd g9 ho rfl kk
theorem ev_nd_numb {M : ev_M} {pc pc' ix : Nat} {ls : List (Option Value)} {st : List Value} {N : nod} {ed : Nat → Nat → Int32} {zs : Nat → Nat} {cs : Nat → Int32} {ad : Nat → Nat} {i : Nat} (hd : ev_d M pc (.getfield ix) 3 pc') (g6 : ev_gs M.1.cls ix 6 4) (g7 : ev_gs M.1.cls ix 7 3) (g8 : ev_gs M.1.cls ix 8 4) (g9 : ev_gs M.1.cls ix 9 3) (hN : NdAt E N ed zs cs ad i h) (kk : Ev E M d pc' ls (.int (nI i) :: st) h sz k n Q) : Ev E M d pc ls (.ref (ad i) :: st) h sz k n Q := by
  rcases hN with ⟨hk, hc, ho⟩ | ⟨hk, hc, ho, -⟩ | ⟨hk, hc, ho, -⟩ | ⟨hk, -, -, -, ho⟩
  · exact ev_get hd g6 ho rfl kk
  · exact ev_get hd g7 ho rfl kk
  · exact ev_get hd g8 ho rfl kk
  · exact ev_get hd g9 ho rfl kk
theorem ev_nd_kind {M : ev_M} {pc pc' ix : Nat} {ls : List (Option Value)} {st : List Value} {N : nod} {ed : Nat → Nat → Int32} {zs : Nat → Nat} {cs : Nat → Int32} {ad : Nat → Nat} {i : Nat} (hd : ev_d M pc (.getfield ix) 3 pc') (g6 : ev_gs M.1.cls ix 6 3) (g7 : ev_gs M.1.cls ix 7 2) (g8 : ev_gs M.1.cls ix 8 3) (g9 : ev_gs M.1.cls ix 9 2) (hN : NdAt E N ed zs cs ad i h) (kk : Ev E M d pc' ls (.int (nI (nK N i)) :: st) h sz k n Q) : Ev E M d pc ls (.ref (ad i) :: st) h sz k n Q := by
  rcases hN with ⟨hk, hc, ho⟩ | ⟨hk, hc, ho, -⟩ | ⟨hk, hc, ho, -⟩ | ⟨hk, -, -, -, ho⟩
  · exact ev_get hd g6 ho rfl kk
  · exact ev_get hd g7 ho rfl (hk ▸ kk)
  · exact ev_get hd g8 ho rfl (hk ▸ kk)
  · exact ev_get hd g9 ho rfl kk
theorem t_putOwn_6 {N : nod} {zs : Nat → Nat} {cs : Nat → Int32} {ad : Nat → Nat} {i : Nat} {b s : Nat} {f : Nat → Int32} (hK : nK N i < 4) (hs : s + 2 ≤ 160) (ho : h (ad i) = some (oB 6 [.int (nA N i), .int (if nK N i = 2 then nA N i else nB N i), .int (nI (nC N i)), .int (nI (nK N i)), .int (nI i), .int (nI (zs i)), .int (cs i)])) (hne : ad i ≠ b) (hb : h b = some (iA E 160 f)) (kk : ∀ f', (∀ z, z < s → f' z = f z) → sg f' s (if nK N i < 2 then ([] : List Int32) else if nK N i = 2 then [nA N i] else if nK N i = 3 then [nA N i, nB N i] else [nI i]) → Q (.returned (some (.int (nI (s + ((if nK N i < 2 then ([] : List Int32) else if nK N i = 2 then [nA N i] else if nK N i = 3 then [nA N i, nB N i] else [nI i])).length))))) (ev_up h b (iA E 160 f')) sz k n) : Ev E m_ValueOrder_putOwn d 0 [some (.ref (ad i)), some (.ref b), some (.int (nI s))] [] h sz k n Q := by
  obtain hk | hk | hk | hk : nK N i = 0 ∨ nK N i = 1 ∨ nK N i = 2 ∨ nK N i = 3 := by omega
  · refine ev_aload_0 (ev_dt dt_ValueOrder_putOwn_0 0 rfl) ?_
    refine ev_get (ev_dt dt_ValueOrder_putOwn_0 1 rfl) g_ValueOrder_18_6 ho rfl ?_
    refine ev_if_eqT (tgt := 15) (ev_dt dt_ValueOrder_putOwn_0 2 rfl) (by decide) (by rw [hk] <;> decide +kernel) ?_
    refine ev_iload_2 (ev_dt dt_ValueOrder_putOwn_0 7 rfl) ?_
    refine ev_ireturn (ev_dt dt_ValueOrder_putOwn_0 8 rfl) rfl rfl ?_
    have hr : (if nK N i < 2 then ([] : List Int32) else if nK N i = 2 then [nA N i] else if nK N i = 3 then [nA N i, nB N i] else [nI i]) = [] := by simp [hk]
    have k2 := kk f (fun _ _ => rfl) (by rw [hr]; trivial)
    rw [ev_up_self hb, hr] at k2
    exact k2
  · refine ev_aload_0 (ev_dt dt_ValueOrder_putOwn_0 0 rfl) ?_
    refine ev_get (ev_dt dt_ValueOrder_putOwn_0 1 rfl) g_ValueOrder_18_6 ho rfl ?_
    refine ev_if_eqF (tgt := 15) (ev_dt dt_ValueOrder_putOwn_0 2 rfl) (by decide) (by rw [hk] <;> decide +kernel) ?_
    refine ev_aload_0 (ev_dt dt_ValueOrder_putOwn_0 3 rfl) ?_
    refine ev_get (ev_dt dt_ValueOrder_putOwn_0 4 rfl) g_ValueOrder_18_6 ho rfl ?_
    refine ev_ic1 (ev_dt dt_ValueOrder_putOwn_0 5 rfl) ?_
    refine ev_icmp_neF (tgt := 17) (ev_dt dt_ValueOrder_putOwn_0 6 rfl) (by decide) (by rw [hk] <;> decide +kernel) ?_
    refine ev_iload_2 (ev_dt dt_ValueOrder_putOwn_0 7 rfl) ?_
    refine ev_ireturn (ev_dt dt_ValueOrder_putOwn_0 8 rfl) rfl rfl ?_
    have hr : (if nK N i < 2 then ([] : List Int32) else if nK N i = 2 then [nA N i] else if nK N i = 3 then [nA N i, nB N i] else [nI i]) = [] := by simp [hk]
    have k2 := kk f (fun _ _ => rfl) (by rw [hr]; trivial)
    rw [ev_up_self hb, hr] at k2
    exact k2
  · refine ev_aload_0 (ev_dt dt_ValueOrder_putOwn_0 0 rfl) ?_
    refine ev_get (ev_dt dt_ValueOrder_putOwn_0 1 rfl) g_ValueOrder_18_6 ho rfl ?_
    refine ev_if_eqF (tgt := 15) (ev_dt dt_ValueOrder_putOwn_0 2 rfl) (by decide) (by rw [hk] <;> decide +kernel) ?_
    refine ev_aload_0 (ev_dt dt_ValueOrder_putOwn_0 3 rfl) ?_
    refine ev_get (ev_dt dt_ValueOrder_putOwn_0 4 rfl) g_ValueOrder_18_6 ho rfl ?_
    refine ev_ic1 (ev_dt dt_ValueOrder_putOwn_0 5 rfl) ?_
    refine ev_icmp_neT (tgt := 17) (ev_dt dt_ValueOrder_putOwn_0 6 rfl) (by decide) (by rw [hk] <;> decide +kernel) ?_
    refine ev_aload_1 (ev_dt dt_ValueOrder_putOwn_0 9 rfl) ?_
    refine ev_iload_2 (ev_dt dt_ValueOrder_putOwn_0 10 rfl) ?_
    refine ev_aload_0 (ev_dt dt_ValueOrder_putOwn_0 11 rfl) ?_
    refine ev_get (ev_dt dt_ValueOrder_putOwn_0 12 rfl) g_ValueOrder_9_6 ho rfl ?_
    refine ev_iast (ev_dt dt_ValueOrder_putOwn_0 13 rfl) hb (by omega) (by decide) ?_
    refine ev_aload_0 (ev_dt dt_ValueOrder_putOwn_0 14 rfl) ?_
    refine ev_get (ev_dt dt_ValueOrder_putOwn_0 15 rfl) g_ValueOrder_18_6 ((ev_up_n hne).trans ho) rfl ?_
    refine ev_ic2 (ev_dt dt_ValueOrder_putOwn_0 16 rfl) ?_
    refine ev_icmp_neF (tgt := 36) (ev_dt dt_ValueOrder_putOwn_0 17 rfl) (by decide) (by rw [hk] <;> decide +kernel) ?_
    refine ev_iload_2 (ev_dt dt_ValueOrder_putOwn_0 18 rfl) ?_
    refine ev_ic1 (ev_dt dt_ValueOrder_putOwn_0 19 rfl) ?_
    refine ev_addn (ev_dt dt_ValueOrder_putOwn_0 20 rfl) ?_
    refine ev_ireturn (ev_dt dt_ValueOrder_putOwn_0 21 rfl) rfl rfl ?_
    have hr : (if nK N i < 2 then ([] : List Int32) else if nK N i = 2 then [nA N i] else if nK N i = 3 then [nA N i, nB N i] else [nI i]) = [nA N i] := by simp [hk]
    have k2 := kk (upd f s (nA N i)) (fun z hz => pk_un (by omega)) (by rw [hr]; exact ⟨pk_us, trivial⟩)
    rw [hr] at k2
    exact k2
  · refine ev_aload_0 (ev_dt dt_ValueOrder_putOwn_0 0 rfl) ?_
    refine ev_get (ev_dt dt_ValueOrder_putOwn_0 1 rfl) g_ValueOrder_18_6 ho rfl ?_
    refine ev_if_eqF (tgt := 15) (ev_dt dt_ValueOrder_putOwn_0 2 rfl) (by decide) (by rw [hk] <;> decide +kernel) ?_
    refine ev_aload_0 (ev_dt dt_ValueOrder_putOwn_0 3 rfl) ?_
    refine ev_get (ev_dt dt_ValueOrder_putOwn_0 4 rfl) g_ValueOrder_18_6 ho rfl ?_
    refine ev_ic1 (ev_dt dt_ValueOrder_putOwn_0 5 rfl) ?_
    refine ev_icmp_neT (tgt := 17) (ev_dt dt_ValueOrder_putOwn_0 6 rfl) (by decide) (by rw [hk] <;> decide +kernel) ?_
    refine ev_aload_1 (ev_dt dt_ValueOrder_putOwn_0 9 rfl) ?_
    refine ev_iload_2 (ev_dt dt_ValueOrder_putOwn_0 10 rfl) ?_
    refine ev_aload_0 (ev_dt dt_ValueOrder_putOwn_0 11 rfl) ?_
    refine ev_get (ev_dt dt_ValueOrder_putOwn_0 12 rfl) g_ValueOrder_9_6 ho rfl ?_
    refine ev_iast (ev_dt dt_ValueOrder_putOwn_0 13 rfl) hb (by omega) (by decide) ?_
    refine ev_aload_0 (ev_dt dt_ValueOrder_putOwn_0 14 rfl) ?_
    refine ev_get (ev_dt dt_ValueOrder_putOwn_0 15 rfl) g_ValueOrder_18_6 ((ev_up_n hne).trans ho) rfl ?_
    refine ev_ic2 (ev_dt dt_ValueOrder_putOwn_0 16 rfl) ?_
    refine ev_icmp_neT (tgt := 36) (ev_dt dt_ValueOrder_putOwn_0 17 rfl) (by decide) (by rw [hk] <;> decide +kernel) ?_
    refine ev_aload_1 (ev_dt dt_ValueOrder_putOwn_0 22 rfl) ?_
    refine ev_iload_2 (ev_dt dt_ValueOrder_putOwn_0 23 rfl) ?_
    refine ev_ic1 (ev_dt dt_ValueOrder_putOwn_0 24 rfl) ?_
    refine ev_addn (ev_dt dt_ValueOrder_putOwn_0 25 rfl) ?_
    refine ev_aload_0 (ev_dt dt_ValueOrder_putOwn_0 26 rfl) ?_
    refine ev_get (ev_dt dt_ValueOrder_putOwn_0 27 rfl) g_ValueOrder_15_6 ((ev_up_n hne).trans ho) rfl ?_
    refine ev_iast (ev_dt dt_ValueOrder_putOwn_0 28 rfl) ev_up_s (by omega) (by decide) ?_
    refine ev_iload_2 (ev_dt dt_ValueOrder_putOwn_0 29 rfl) ?_
    refine ev_ic2 (ev_dt dt_ValueOrder_putOwn_0 30 rfl) ?_
    refine ev_addn (ev_dt dt_ValueOrder_putOwn_0 31 rfl) ?_
    refine ev_ireturn (ev_dt dt_ValueOrder_putOwn_0 32 rfl) rfl rfl ?_
    have hr : (if nK N i < 2 then ([] : List Int32) else if nK N i = 2 then [nA N i] else if nK N i = 3 then [nA N i, nB N i] else [nI i]) = [nA N i, nB N i] := by simp [hk]
    rw [ev_up_up]
    rw [if_neg (by omega)]
    have k2 := kk (upd (upd f s (nA N i)) (s + 1) (nB N i)) (fun z hz => by rw [pk_un (by omega), pk_un (by omega)]) (by rw [hr]; exact ⟨by rw [pk_un (by omega), pk_us], pk_us, trivial⟩)
    rw [hr] at k2
    exact k2
theorem t_putOwn_7 {N : nod} {zs : Nat → Nat} {cs : Nat → Int32} {ad : Nat → Nat} {i : Nat} {b s : Nat} {f : Nat → Int32} (hK : nK N i = 4) (hs : s + 2 ≤ 160) (ho : h (ad i) = some (oB 7 [.ref (ad i + 1), .int (nI (nC N i)), .int (nI 4), .int (nI i), .int (nI (zs i)), .int (cs i)])) (hne : ad i ≠ b) (hb : h b = some (iA E 160 f)) (kk : ∀ f', (∀ z, z < s → f' z = f z) → sg f' s (if nK N i < 2 then ([] : List Int32) else if nK N i = 2 then [nA N i] else if nK N i = 3 then [nA N i, nB N i] else [nI i]) → Q (.returned (some (.int (nI (s + ((if nK N i < 2 then ([] : List Int32) else if nK N i = 2 then [nA N i] else if nK N i = 3 then [nA N i, nB N i] else [nI i])).length))))) (ev_up h b (iA E 160 f')) sz k n) : Ev E m_Order_putOwn d 0 [some (.ref (ad i)), some (.ref b), some (.int (nI s))] [] h sz k n Q := by
  refine ev_aload_1 (ev_dt dt_Order_putOwn_0 0 rfl) ?_
  refine ev_iload_2 (ev_dt dt_Order_putOwn_0 1 rfl) ?_
  refine ev_aload_0 (ev_dt dt_Order_putOwn_0 2 rfl) ?_
  refine ev_get (ev_dt dt_Order_putOwn_0 3 rfl) g_Order_26_7 ho rfl ?_
  refine ev_iast (ev_dt dt_Order_putOwn_0 4 rfl) hb (by omega) (by decide) ?_
  refine ev_iload_2 (ev_dt dt_Order_putOwn_0 5 rfl) ?_
  refine ev_ic1 (ev_dt dt_Order_putOwn_0 6 rfl) ?_
  refine ev_addn (ev_dt dt_Order_putOwn_0 7 rfl) ?_
  have hr : (if nK N i < 2 then ([] : List Int32) else if nK N i = 2 then [nA N i] else if nK N i = 3 then [nA N i, nB N i] else [nI i]) = [nI i] := by simp [hK]
  have k2 := kk (upd f s (nI i)) (fun z hz => pk_un (by omega)) (by rw [hr]; exact ⟨pk_us, trivial⟩)
  rw [hr] at k2
  exact ev_ireturn (ev_dt dt_Order_putOwn_0 8 rfl) rfl rfl k2
theorem t_putOwn_8 {N : nod} {zs : Nat → Nat} {cs : Nat → Int32} {ad : Nat → Nat} {i : Nat} {b s : Nat} {f : Nat → Int32} (hK : nK N i = 5) (hs : s + 2 ≤ 160) (ho : h (ad i) = some (oB 8 [.ref (ad i + 1), .ref (ad i + 2), .int (nI (nC N i)), .int (nI 5), .int (nI i), .int (nI (zs i)), .int (cs i)])) (hne : ad i ≠ b) (hb : h b = some (iA E 160 f)) (kk : ∀ f', (∀ z, z < s → f' z = f z) → sg f' s (if nK N i < 2 then ([] : List Int32) else if nK N i = 2 then [nA N i] else if nK N i = 3 then [nA N i, nB N i] else [nI i]) → Q (.returned (some (.int (nI (s + ((if nK N i < 2 then ([] : List Int32) else if nK N i = 2 then [nA N i] else if nK N i = 3 then [nA N i, nB N i] else [nI i])).length))))) (ev_up h b (iA E 160 f')) sz k n) : Ev E m_Order_putOwn d 0 [some (.ref (ad i)), some (.ref b), some (.int (nI s))] [] h sz k n Q := by
  refine ev_aload_1 (ev_dt dt_Order_putOwn_0 0 rfl) ?_
  refine ev_iload_2 (ev_dt dt_Order_putOwn_0 1 rfl) ?_
  refine ev_aload_0 (ev_dt dt_Order_putOwn_0 2 rfl) ?_
  refine ev_get (ev_dt dt_Order_putOwn_0 3 rfl) g_Order_26_8 ho rfl ?_
  refine ev_iast (ev_dt dt_Order_putOwn_0 4 rfl) hb (by omega) (by decide) ?_
  refine ev_iload_2 (ev_dt dt_Order_putOwn_0 5 rfl) ?_
  refine ev_ic1 (ev_dt dt_Order_putOwn_0 6 rfl) ?_
  refine ev_addn (ev_dt dt_Order_putOwn_0 7 rfl) ?_
  have hr : (if nK N i < 2 then ([] : List Int32) else if nK N i = 2 then [nA N i] else if nK N i = 3 then [nA N i, nB N i] else [nI i]) = [nI i] := by simp [hK]
  have k2 := kk (upd f s (nI i)) (fun z hz => pk_un (by omega)) (by rw [hr]; exact ⟨pk_us, trivial⟩)
  rw [hr] at k2
  exact ev_ireturn (ev_dt dt_Order_putOwn_0 8 rfl) rfl rfl k2
theorem t_Order_put_6 {N : nod} {zs : Nat → Nat} {cs : Nat → Int32} {ad : Nat → Nat} {i : Nat} {b s : Nat} {f : Nat → Int32} (hK : nK N i < 4) (hs : s + 4 ≤ 160) (ho : h (ad i) = some (oB 6 [.int (nA N i), .int (if nK N i = 2 then nA N i else nB N i), .int (nI (nC N i)), .int (nI (nK N i)), .int (nI i), .int (nI (zs i)), .int (cs i)])) (hne : ad i ≠ b) (hb : h b = some (iA E 160 f)) (kk : ∀ f', (∀ z, z < s → f' z = f z) → sg f' s (rf N cs i) → Q (.returned (some (.int (nI (s + (rf N cs i).length))))) (ev_up h b (iA E 160 f')) sz k n) : Ev E m_Order_putReduced (d + 1) 0 [some (.ref (ad i)), some (.ref b), some (.int (nI s))] [] h sz k n Q := by
  refine ev_aload_1 (ev_dt dt_Order_putReduced_0 0 rfl) ?_
  refine ev_iload_2 (ev_dt dt_Order_putReduced_0 1 rfl) ?_
  refine ev_aload_0 (ev_dt dt_Order_putReduced_0 2 rfl) ?_
  refine ev_get (ev_dt dt_Order_putReduced_0 3 rfl) g_Order_19_6 ho rfl ?_
  refine ev_iast (ev_dt dt_Order_putReduced_0 4 rfl) hb (by omega) (by decide) ?_
  refine ev_aload_1 (ev_dt dt_Order_putReduced_0 5 rfl) ?_
  refine ev_iload_2 (ev_dt dt_Order_putReduced_0 6 rfl) ?_
  refine ev_ic1 (ev_dt dt_Order_putReduced_0 7 rfl) ?_
  refine ev_addn (ev_dt dt_Order_putReduced_0 8 rfl) ?_
  refine ev_aload_0 (ev_dt dt_Order_putReduced_0 9 rfl) ?_
  refine ev_get (ev_dt dt_Order_putReduced_0 10 rfl) g_Order_9_6 ((ev_up_n hne).trans ho) rfl ?_
  refine ev_iast (ev_dt dt_Order_putReduced_0 11 rfl) ev_up_s (by omega) (by decide) ?_
  refine ev_aload_0 (ev_dt dt_Order_putReduced_0 12 rfl) ?_
  refine ev_aload_1 (ev_dt dt_Order_putReduced_0 13 rfl) ?_
  refine ev_iload_2 (ev_dt dt_Order_putReduced_0 14 rfl) ?_
  refine ev_ic2 (ev_dt dt_Order_putReduced_0 15 rfl) ?_
  refine ev_addn (ev_dt dt_Order_putReduced_0 16 rfl) ?_
  rw [ev_up_up]
  have ho' : ev_up h b (iA E 160 (upd (upd f s (nI (nK N i))) (s + 1) (nI (nC N i)))) (ad i) = h (ad i) := ev_up_n hne
  rw [ho] at ho'
  refine ev_callU (ev_dt dt_Order_putReduced_0 17 rfl) u_Order_22_6 ho' [.ref b, .int (nI (s + 2))] rfl np_ValueOrder_putOwn rfl (ev_lk_of (j := 0) rfl rfl) (t_putOwn_6 hK (by omega) ho' hne ev_up_s (fun f' hf hg => ev_r1 ?_))
  rw [ev_up_up]
  have hr : rf N cs i = nI (nK N i) :: nI (nC N i) :: (if nK N i < 2 then ([] : List Int32) else if nK N i = 2 then [nA N i] else if nK N i = 3 then [nA N i, nB N i] else [nI i]) := rf_o (by omega)
  have k2 := kk f' (fun z hz => by rw [hf z (by omega), pk_un (by omega), pk_un (by omega)]) (by rw [hr]; exact ⟨by rw [hf s (by omega), pk_un (by omega), pk_us], by rw [hf (s + 1) (by omega), pk_us], hg⟩)
  rw [hr, show s + (nI (nK N i) :: nI (nC N i) :: (if nK N i < 2 then ([] : List Int32) else if nK N i = 2 then [nA N i] else if nK N i = 3 then [nA N i, nB N i] else [nI i])).length = s + 2 + ((if nK N i < 2 then ([] : List Int32) else if nK N i = 2 then [nA N i] else if nK N i = 3 then [nA N i, nB N i] else [nI i])).length by simp; omega] at k2
  exact ev_ireturn (ev_dt dt_Order_putReduced_0 18 rfl) rfl rfl k2
theorem t_Order_put_7 {N : nod} {zs : Nat → Nat} {cs : Nat → Int32} {ad : Nat → Nat} {i : Nat} {b s : Nat} {f : Nat → Int32} (hK : nK N i = 4) (hs : s + 4 ≤ 160) (ho : h (ad i) = some (oB 7 [.ref (ad i + 1), .int (nI (nC N i)), .int (nI 4), .int (nI i), .int (nI (zs i)), .int (cs i)])) (hne : ad i ≠ b) (hb : h b = some (iA E 160 f)) (kk : ∀ f', (∀ z, z < s → f' z = f z) → sg f' s (rf N cs i) → Q (.returned (some (.int (nI (s + (rf N cs i).length))))) (ev_up h b (iA E 160 f')) sz k n) : Ev E m_Order_putReduced (d + 1) 0 [some (.ref (ad i)), some (.ref b), some (.int (nI s))] [] h sz k n Q := by
  refine ev_aload_1 (ev_dt dt_Order_putReduced_0 0 rfl) ?_
  refine ev_iload_2 (ev_dt dt_Order_putReduced_0 1 rfl) ?_
  refine ev_aload_0 (ev_dt dt_Order_putReduced_0 2 rfl) ?_
  refine ev_get (ev_dt dt_Order_putReduced_0 3 rfl) g_Order_19_7 ho rfl ?_
  refine ev_iast (ev_dt dt_Order_putReduced_0 4 rfl) hb (by omega) (by decide) ?_
  refine ev_aload_1 (ev_dt dt_Order_putReduced_0 5 rfl) ?_
  refine ev_iload_2 (ev_dt dt_Order_putReduced_0 6 rfl) ?_
  refine ev_ic1 (ev_dt dt_Order_putReduced_0 7 rfl) ?_
  refine ev_addn (ev_dt dt_Order_putReduced_0 8 rfl) ?_
  refine ev_aload_0 (ev_dt dt_Order_putReduced_0 9 rfl) ?_
  refine ev_get (ev_dt dt_Order_putReduced_0 10 rfl) g_Order_9_7 ((ev_up_n hne).trans ho) rfl ?_
  refine ev_iast (ev_dt dt_Order_putReduced_0 11 rfl) ev_up_s (by omega) (by decide) ?_
  refine ev_aload_0 (ev_dt dt_Order_putReduced_0 12 rfl) ?_
  refine ev_aload_1 (ev_dt dt_Order_putReduced_0 13 rfl) ?_
  refine ev_iload_2 (ev_dt dt_Order_putReduced_0 14 rfl) ?_
  refine ev_ic2 (ev_dt dt_Order_putReduced_0 15 rfl) ?_
  refine ev_addn (ev_dt dt_Order_putReduced_0 16 rfl) ?_
  rw [ev_up_up]
  have ho' : ev_up h b (iA E 160 (upd (upd f s (nI 4)) (s + 1) (nI (nC N i)))) (ad i) = h (ad i) := ev_up_n hne
  rw [ho] at ho'
  refine ev_callV (ev_dt dt_Order_putReduced_0 17 rfl) v_Order_22_7 ho' [.ref b, .int (nI (s + 2))] rfl np_Order_putOwn rfl (ev_lk_of (j := 0) rfl rfl) (t_putOwn_7 hK (by omega) ho' hne ev_up_s (fun f' hf hg => ev_r1 ?_))
  rw [ev_up_up]
  have hr : rf N cs i = nI (nK N i) :: nI (nC N i) :: (if nK N i < 2 then ([] : List Int32) else if nK N i = 2 then [nA N i] else if nK N i = 3 then [nA N i, nB N i] else [nI i]) := rf_o (by omega)
  have k2 := kk f' (fun z hz => by rw [hf z (by omega), pk_un (by omega), pk_un (by omega)]) (by rw [hr]; exact ⟨by rw [hf s (by omega), pk_un (by omega), pk_us, hK], by rw [hf (s + 1) (by omega), pk_us], hg⟩)
  rw [hr, show s + (nI (nK N i) :: nI (nC N i) :: (if nK N i < 2 then ([] : List Int32) else if nK N i = 2 then [nA N i] else if nK N i = 3 then [nA N i, nB N i] else [nI i])).length = s + 2 + ((if nK N i < 2 then ([] : List Int32) else if nK N i = 2 then [nA N i] else if nK N i = 3 then [nA N i, nB N i] else [nI i])).length by simp; omega] at k2
  exact ev_ireturn (ev_dt dt_Order_putReduced_0 18 rfl) rfl rfl k2
theorem t_Order_put_8 {N : nod} {zs : Nat → Nat} {cs : Nat → Int32} {ad : Nat → Nat} {i : Nat} {b s : Nat} {f : Nat → Int32} (hK : nK N i = 5) (hs : s + 4 ≤ 160) (ho : h (ad i) = some (oB 8 [.ref (ad i + 1), .ref (ad i + 2), .int (nI (nC N i)), .int (nI 5), .int (nI i), .int (nI (zs i)), .int (cs i)])) (hne : ad i ≠ b) (hb : h b = some (iA E 160 f)) (kk : ∀ f', (∀ z, z < s → f' z = f z) → sg f' s (rf N cs i) → Q (.returned (some (.int (nI (s + (rf N cs i).length))))) (ev_up h b (iA E 160 f')) sz k n) : Ev E m_Order_putReduced (d + 1) 0 [some (.ref (ad i)), some (.ref b), some (.int (nI s))] [] h sz k n Q := by
  refine ev_aload_1 (ev_dt dt_Order_putReduced_0 0 rfl) ?_
  refine ev_iload_2 (ev_dt dt_Order_putReduced_0 1 rfl) ?_
  refine ev_aload_0 (ev_dt dt_Order_putReduced_0 2 rfl) ?_
  refine ev_get (ev_dt dt_Order_putReduced_0 3 rfl) g_Order_19_8 ho rfl ?_
  refine ev_iast (ev_dt dt_Order_putReduced_0 4 rfl) hb (by omega) (by decide) ?_
  refine ev_aload_1 (ev_dt dt_Order_putReduced_0 5 rfl) ?_
  refine ev_iload_2 (ev_dt dt_Order_putReduced_0 6 rfl) ?_
  refine ev_ic1 (ev_dt dt_Order_putReduced_0 7 rfl) ?_
  refine ev_addn (ev_dt dt_Order_putReduced_0 8 rfl) ?_
  refine ev_aload_0 (ev_dt dt_Order_putReduced_0 9 rfl) ?_
  refine ev_get (ev_dt dt_Order_putReduced_0 10 rfl) g_Order_9_8 ((ev_up_n hne).trans ho) rfl ?_
  refine ev_iast (ev_dt dt_Order_putReduced_0 11 rfl) ev_up_s (by omega) (by decide) ?_
  refine ev_aload_0 (ev_dt dt_Order_putReduced_0 12 rfl) ?_
  refine ev_aload_1 (ev_dt dt_Order_putReduced_0 13 rfl) ?_
  refine ev_iload_2 (ev_dt dt_Order_putReduced_0 14 rfl) ?_
  refine ev_ic2 (ev_dt dt_Order_putReduced_0 15 rfl) ?_
  refine ev_addn (ev_dt dt_Order_putReduced_0 16 rfl) ?_
  rw [ev_up_up]
  have ho' : ev_up h b (iA E 160 (upd (upd f s (nI 5)) (s + 1) (nI (nC N i)))) (ad i) = h (ad i) := ev_up_n hne
  rw [ho] at ho'
  refine ev_callV (ev_dt dt_Order_putReduced_0 17 rfl) v_Order_22_8 ho' [.ref b, .int (nI (s + 2))] rfl np_Order_putOwn rfl (ev_lk_of (j := 0) rfl rfl) (t_putOwn_8 hK (by omega) ho' hne ev_up_s (fun f' hf hg => ev_r1 ?_))
  rw [ev_up_up]
  have hr : rf N cs i = nI (nK N i) :: nI (nC N i) :: (if nK N i < 2 then ([] : List Int32) else if nK N i = 2 then [nA N i] else if nK N i = 3 then [nA N i, nB N i] else [nI i]) := rf_o (by omega)
  have k2 := kk f' (fun z hz => by rw [hf z (by omega), pk_un (by omega), pk_un (by omega)]) (by rw [hr]; exact ⟨by rw [hf s (by omega), pk_un (by omega), pk_us, hK], by rw [hf (s + 1) (by omega), pk_us], hg⟩)
  rw [hr, show s + (nI (nK N i) :: nI (nC N i) :: (if nK N i < 2 then ([] : List Int32) else if nK N i = 2 then [nA N i] else if nK N i = 3 then [nA N i, nB N i] else [nI i])).length = s + 2 + ((if nK N i < 2 then ([] : List Int32) else if nK N i = 2 then [nA N i] else if nK N i = 3 then [nA N i, nB N i] else [nI i])).length by simp; omega] at k2
  exact ev_ireturn (ev_dt dt_Order_putReduced_0 18 rfl) rfl rfl k2
theorem t_pDecides {N : nod} {ed : Nat → Nat → Int32} {zs : Nat → Nat} {cs : Nat → Int32} {ad : Nat → Nat} {i : Nat} (h9 : nK N i ≤ 9) (ho : h (ad i) = some (oB 9 [.ref (ad (nL N i)), .ref (ad (nQ N i)), .int (nI (nK N i)), .int (nI i), .int (nI (zs i)), .int (cs i)])) (hP : NdAt E N ed zs cs ad (nL N i) h) (hQ : NdAt E N ed zs cs ad (nQ N i) h) (kt : nK N i = 7 ∧ cs (nQ N i) &&& (cs (nL N i) ^^^ (-1)) = nI 0 → Q (.returned (some (.int (nI 1)))) h sz k n) (kf : ¬ (nK N i = 7 ∧ cs (nQ N i) &&& (cs (nL N i) ^^^ (-1)) = nI 0) → Q (.returned (some (.int (nI 0)))) h sz k n) : Ev E m_Term_pDecidesAlone d 0 [some (.ref (ad i))] [] h sz k n Q := by
  refine ev_aload_0 (ev_dt dt_Term_pDecidesAlone_0 0 rfl) ?_
  refine ev_get (ev_dt dt_Term_pDecidesAlone_0 1 rfl) g_Term_33_9 ho rfl ?_
  refine ev_bipush (ev_dt dt_Term_pDecidesAlone_0 2 rfl) bi_7 ?_
  refine ev_icmp_ne (tgt := 33) (ev_dt dt_Term_pDecidesAlone_0 3 rfl) (by decide) (fun h7 => ?_) (fun h7 => ?_)
  · refine ev_ic0 (ev_dt dt_Term_pDecidesAlone_0 16 rfl) ?_
    exact ev_ireturn (ev_dt dt_Term_pDecidesAlone_0 17 rfl) rfl bz0 (kf (fun e => h7 (by rw [e.1])))
  · refine ev_aload_0 (ev_dt dt_Term_pDecidesAlone_0 4 rfl) ?_
    refine ev_get (ev_dt dt_Term_pDecidesAlone_0 5 rfl) g_Term_23_9 ho rfl ?_
    refine ev_nd_cols (ev_dt dt_Term_pDecidesAlone_0 6 rfl) g_Term_9_6 g_Term_9_7 g_Term_9_8 g_Term_9_9 hQ ?_
    refine ev_aload_0 (ev_dt dt_Term_pDecidesAlone_0 7 rfl) ?_
    refine ev_get (ev_dt dt_Term_pDecidesAlone_0 8 rfl) g_Term_19_9 ho rfl ?_
    refine ev_nd_cols (ev_dt dt_Term_pDecidesAlone_0 9 rfl) g_Term_9_6 g_Term_9_7 g_Term_9_8 g_Term_9_9 hP ?_
    refine ev_icm (ev_dt dt_Term_pDecidesAlone_0 10 rfl) ?_
    refine ev_ixor (ev_dt dt_Term_pDecidesAlone_0 11 rfl) rfl ?_
    refine ev_iand (ev_dt dt_Term_pDecidesAlone_0 12 rfl) rfl ?_
    have h7' : nK N i = 7 := (nI_eq (by omega) (by omega)).mp h7
    refine ev_if_ne (tgt := 33) (ev_dt dt_Term_pDecidesAlone_0 13 rfl) (by decide) (fun hz => ?_) (fun hz => ?_)
    · refine ev_ic0 (ev_dt dt_Term_pDecidesAlone_0 16 rfl) ?_
      exact ev_ireturn (ev_dt dt_Term_pDecidesAlone_0 17 rfl) rfl bz0 (kf (fun e => hz (e.2.trans nI_0)))
    · refine ev_ic1 (ev_dt dt_Term_pDecidesAlone_0 14 rfl) ?_
      refine ev_goto (tgt := 34) (ev_dt dt_Term_pDecidesAlone_0 15 rfl) (by decide) ?_
      exact ev_ireturn (ev_dt dt_Term_pDecidesAlone_0 17 rfl) rfl bz1 (kt ⟨h7', hz.trans nI_0.symm⟩)
def pM (N : nod) (i : Nat) : ev_M := if nK N i < 6 then m_Order_putReduced else m_Term_putReduced
def pL (N : nod) (i : Nat) (a b s : Nat) : List (Option Value) := if nK N i < 6 then [some (.ref a), some (.ref b), some (.int (nI s))] else [some (.ref a), some (.ref b), some (.int (nI s)), none, none]
def px : MethodName := ⟨"PreferTable$Node", "putReduced", "([II)I"⟩
/-- what a call of putReduced does -/
def pC (E : ev_E) (N : nod) (cs : Nat → Int32) (ad : Nat → Nat) (b i d s : Nat) (f : Nat → Int32) (h : ev_h) (sz k n : Nat) : Prop := ∀ Q : ev_Q, (∀ f', (∀ z, z < s → f' z = f z) → sg f' s (rf N cs i) → Q (.returned (some (.int (nI (s + (rf N cs i).length))))) (ev_up h b (iA E 160 f')) sz k n) → Ev E (pM N i) d 0 (pL N i (ad i) b s) [] h sz k n Q
theorem ev_putG {M : ev_M} {pc pc' idx b s : Nat} {f : Nat → Int32} {ls : List (Option Value)} {rest : List Value} {N : nod} {ed : Nat → Nat → Int32} {zs : Nat → Nat} {cs : Nat → Int32} {ad : Nat → Nat} {i : Nat} (hd : ev_d M pc (.invokevirtual idx) 3 pc') (w6 : ev_wU M.1.cls idx 6 px m_Order_putReduced) (w7 : ev_wU M.1.cls idx 7 px m_Order_putReduced) (w8 : ev_wU M.1.cls idx 8 px m_Order_putReduced) (w9 : ev_wU M.1.cls idx 9 px m_Term_putReduced) (hN : NdAt E N ed zs cs ad i h) (hroom : Nat.ble ((rest.map fun v => v.category).sum + 5 + 11) 64 = true)
    (ih : pC E N cs ad b i d s f h sz k n) (kk : ∀ f', (∀ z, z < s → f' z = f z) → sg f' s (rf N cs i) → Ev E M (d + 1) pc' ls (.int (nI (s + (rf N cs i).length)) :: rest) (ev_up h b (iA E 160 f')) sz k n Q) : Ev E M (d + 1) pc ls (.int (nI s) :: .ref b :: .ref (ad i) :: rest) h sz k n Q := by
  have hr3 : Nat.ble ((rest.map fun v => v.category).sum + 3 + 11) 64 = true := Nat.ble_eq_true_of_le (by have := Nat.le_of_ble_eq_true hroom; omega)
  rcases hN with ⟨hk, hc, ho⟩ | ⟨hk, hc, ho, -⟩ | ⟨hk, hc, ho, -⟩ | ⟨hk, -, -, -, ho⟩
  · unfold pC at ih
    rw [show pM N i = m_Order_putReduced from if_pos (by omega), show pL N i (ad i) b s = [some (.ref (ad i)), some (.ref b), some (.int (nI s))] from if_pos (by omega)] at ih
    exact ev_callU hd w6 ho [.ref b, .int (nI s)] rfl np_Order_putReduced hr3 (ev_lk_of (j := 0) rfl rfl) (ih _ (fun f' h1 h2 => ev_r1 (kk f' h1 h2)))
  · unfold pC at ih
    rw [show pM N i = m_Order_putReduced from if_pos (by omega), show pL N i (ad i) b s = [some (.ref (ad i)), some (.ref b), some (.int (nI s))] from if_pos (by omega)] at ih
    exact ev_callU hd w7 ho [.ref b, .int (nI s)] rfl np_Order_putReduced hr3 (ev_lk_of (j := 0) rfl rfl) (ih _ (fun f' h1 h2 => ev_r1 (kk f' h1 h2)))
  · unfold pC at ih
    rw [show pM N i = m_Order_putReduced from if_pos (by omega), show pL N i (ad i) b s = [some (.ref (ad i)), some (.ref b), some (.int (nI s))] from if_pos (by omega)] at ih
    exact ev_callU hd w8 ho [.ref b, .int (nI s)] rfl np_Order_putReduced hr3 (ev_lk_of (j := 0) rfl rfl) (ih _ (fun f' h1 h2 => ev_r1 (kk f' h1 h2)))
  · unfold pC at ih
    rw [show pM N i = m_Term_putReduced from if_neg (by omega), show pL N i (ad i) b s = [some (.ref (ad i)), some (.ref b), some (.int (nI s)), none, none] from if_neg (by omega)] at ih
    exact ev_callU hd w9 ho [.ref b, .int (nI s)] rfl np_Term_putReduced hroom (ev_lk_of (j := 2) rfl rfl) (ih _ (fun f' h1 h2 => ev_r1 (kk f' h1 h2)))
theorem t_Term_put {N : nod} {ed : Nat → Nat → Int32} {zs : Nat → Nat} {cs : Nat → Int32} {ad : Nat → Nat} {i : Nat} {b s c : Nat} {f : Nat → Int32} (hi : i < c) (h6 : 6 ≤ nK N i) (h99 : nK N i ≤ 9) (hl : nL N i < i) (hq : nQ N i < i) (hs : s + 4 * zs i ≤ 160) (ho : h (ad i) = some (oB 9 [.ref (ad (nL N i)), .ref (ad (nQ N i)), .int (nI (nK N i)), .int (nI i), .int (nI (zs i)), .int (cs i)])) (hne : ad i ≠ b) (hb : h b = some (iA E 160 f)) (hN : ∀ j, j < c → NdAt E N ed zs cs ad j h) (hadr : ∀ j, j < c → b < ad j) (hZ : okZ N zs c) (hK9 : ∀ n, n < c → nK N n ≤ 9) (hT : ∀ n, n < c → ¬ nK N n < 6 → nL N n < n ∧ nQ N n < n) (ihp : ∀ (h : ev_h) (s : Nat) (f : Nat → Int32), s + 4 * zs (nL N i) ≤ 160 → (∀ j, j < c → NdAt E N ed zs cs ad j h) → h b = some (iA E 160 f) → pC E N cs ad b (nL N i) (d + 2) s f h sz k n) (ihq : ∀ (h : ev_h) (s : Nat) (f : Nat → Int32), s + 4 * zs (nQ N i) ≤ 160 → (∀ j, j < c → NdAt E N ed zs cs ad j h) → h b = some (iA E 160 f) → pC E N cs ad b (nQ N i) (d + 2) s f h sz k n) (kk : ∀ f', (∀ z, z < s → f' z = f z) → sg f' s (rf N cs i) → Q (.returned (some (.int (nI (s + (rf N cs i).length))))) (ev_up h b (iA E 160 f')) sz k n) : Ev E m_Term_putReduced (d + 3) 0 [some (.ref (ad i)), some (.ref b), some (.int (nI s)), none, none] [] h sz k n Q := by
  have hP := hN (nL N i) (by omega)
  have hQ := hN (nQ N i) (by omega)
  have haP := hadr (nL N i) (by omega)
  have haQ := hadr (nQ N i) (by omega)
  have hzz : 4 ≤ 4 * zs i := by
    by_cases e : nK N i = 9
    · have := (hZ i hi).2.2.1 e; omega
    · have := (hZ i hi).2.2.2 h6 (by omega); omega
  have hzl : 1 + zs (nL N i) ≤ zs i := by
    by_cases e : nK N i = 9
    · have := (hZ i hi).2.2.1 e; omega
    · have := (hZ i hi).2.2.2 h6 (by omega); omega
  refine ev_aload_1 (ev_dt dt_Term_putReduced_0 0 rfl) ?_
  refine ev_iload_2 (ev_dt dt_Term_putReduced_0 1 rfl) ?_
  refine ev_aload_0 (ev_dt dt_Term_putReduced_0 2 rfl) ?_
  refine ev_get (ev_dt dt_Term_putReduced_0 3 rfl) g_Term_33_9 ho rfl ?_
  refine ev_iast (ev_dt dt_Term_putReduced_0 4 rfl) hb (by omega) (by decide) ?_
  refine ev_aload_0 (ev_dt dt_Term_putReduced_0 5 rfl) ?_
  refine ev_get (ev_dt dt_Term_putReduced_0 6 rfl) g_Term_19_9 ((ev_up_n hne).trans ho) rfl ?_
  refine ev_aload_1 (ev_dt dt_Term_putReduced_0 7 rfl) ?_
  refine ev_iload_2 (ev_dt dt_Term_putReduced_0 8 rfl) ?_
  refine ev_ic1 (ev_dt dt_Term_putReduced_0 9 rfl) ?_
  refine ev_addn (ev_dt dt_Term_putReduced_0 10 rfl) ?_
  refine ev_putG (d := d + 2) (ev_dt dt_Term_putReduced_0 11 rfl) u_Term_44_6 u_Term_44_7 u_Term_44_8 u_Term_44_9 (hP.kept (fun z q1 q2 => ev_up_n (by omega))) rfl (ihp _ (s + 1) (upd f s (nI (nK N i))) (by omega) (fun j hj => (hN j hj).kept (fun z q1 q2 => ev_up_n (by have := hadr j hj; omega))) ev_up_s) (fun f1 hf1 hg1 => ?_)
  rw [ev_up_up]
  obtain ⟨⟨x, t, hxt, -⟩, hl1⟩ := gf_rf (cs := cs) hZ hK9 hT (nL N i) (by omega)
  have ho1 : ev_up h b (iA E 160 f1) (ad i) = h (ad i) := ev_up_n hne
  rw [ho] at ho1
  have hk0 : f1 s = nI (nK N i) := by rw [hf1 s (by omega), pk_us]
  refine ev_istore_3 (ev_dt dt_Term_putReduced_0 12 rfl) (by decide) rfl ?_
  refine ev_aload_0 (ev_dt dt_Term_putReduced_0 13 rfl) ?_
  refine ev_get (ev_dt dt_Term_putReduced_0 14 rfl) g_Term_33_9 ho1 rfl ?_
  refine ev_bipush (ev_dt dt_Term_putReduced_0 15 rfl) bi_9 ?_
  refine ev_icmp_ne (tgt := 35) (ev_dt dt_Term_putReduced_0 16 rfl) (by decide) (fun h9 => ?_) (fun h9 => ?_)
  · have h9' : nK N i ≠ 9 := fun e => h9 (by rw [e])
    have hz3 := (hZ i hi).2.2.2 h6 (by omega)
    refine ev_aload_0 (ev_dt dt_Term_putReduced_0 22 rfl) ?_
    refine ev_get (ev_dt dt_Term_putReduced_0 23 rfl) g_Term_23_9 ho1 rfl ?_
    refine ev_aload_1 (ev_dt dt_Term_putReduced_0 24 rfl) ?_
    refine ev_iload_3 (ev_dt dt_Term_putReduced_0 25 rfl) ?_
    refine ev_putG (d := d + 2) (ev_dt dt_Term_putReduced_0 26 rfl) u_Term_44_6 u_Term_44_7 u_Term_44_8 u_Term_44_9 (hQ.kept (fun z q1 q2 => ev_up_n (by omega))) rfl (ihq _ (s + 1 + (rf N cs (nL N i)).length) f1 (by omega) (fun j hj => (hN j hj).kept (fun z q1 q2 => ev_up_n (by have := hadr j hj; omega))) ev_up_s) (fun f2 hf2 hg2 => ?_)
    rw [ev_up_up]
    obtain ⟨⟨y, u, hyu, -⟩, hl2⟩ := gf_rf (cs := cs) hZ hK9 hT (nQ N i) (by omega)
    have ho2 : ev_up h b (iA E 160 f2) (ad i) = h (ad i) := ev_up_n hne
    rw [ho] at ho2
    have hk1 : f2 s = nI (nK N i) := by rw [hf2 s (by omega)]; exact hk0
    have hg1' : sg f2 (s + 1) (rf N cs (nL N i)) := sg_ext hg1 (fun z q1 q2 => hf2 z (by omega))
    have hrt : rf N cs i = rt (nK N i) (cs (nL N i)) (cs (nQ N i)) (rf N cs (nL N i)) (rf N cs (nQ N i)) := rf_t (by omega) ⟨hl, hq⟩
    have hfr : ∀ z, z < s → f2 z = f z := fun z hz => by rw [hf2 z (by omega), hf1 z (by omega), pk_un (by omega)]
    rw [rt, if_neg h9'] at hrt
    refine ev_istore_4 (ev_dt dt_Term_putReduced_0 27 rfl) (by decide) rfl ?_
    refine ev_aload_1 (ev_dt dt_Term_putReduced_0 28 rfl) ?_
    refine ev_iload_2 (ev_dt dt_Term_putReduced_0 29 rfl) ?_
    refine ev_ic1 (ev_dt dt_Term_putReduced_0 30 rfl) ?_
    refine ev_addn (ev_dt dt_Term_putReduced_0 31 rfl) ?_
    refine ev_iload_3 (ev_dt dt_Term_putReduced_0 32 rfl) ?_
    refine ev_iload_4 (ev_dt dt_Term_putReduced_0 33 rfl) ?_
    refine ev_callS (ev_dt dt_Term_putReduced_0 34 rfl) s_Term_52 [.ref b, .int (nI (s + 1)), .int (nI (s + 1 + (rf N cs (nL N i)).length)), .int (nI ((s + 1 + (rf N cs (nL N i)).length) + (rf N cs (nQ N i)).length))] rfl np_Term_areAlike rfl (ev_lk_of (j := 2) rfl rfl) (t_areAlike (p := rf N cs (nL N i)) (q := rf N cs (nQ N i)) rfl rfl (by omega) ev_up_s hg1' hg2 (fun hx => ev_r1 ?_) (fun hx => ev_r1 ?_))
    · refine ev_if_neT (tgt := 66) (ev_dt dt_Term_putReduced_0 35 rfl) (by decide) z10 ?_
      refine ev_aload_1 (ev_dt dt_Term_putReduced_0 39 rfl) ?_
      refine ev_iload_2 (ev_dt dt_Term_putReduced_0 40 rfl) ?_
      refine ev_ic1 (ev_dt dt_Term_putReduced_0 41 rfl) ?_
      refine ev_addn (ev_dt dt_Term_putReduced_0 42 rfl) ?_
      refine ev_iload_3 (ev_dt dt_Term_putReduced_0 43 rfl) ?_
      refine ev_ic1 (ev_dt dt_Term_putReduced_0 44 rfl) ?_
      refine ev_callS (ev_dt dt_Term_putReduced_0 45 rfl) s_Term_60 [.ref b, .int (nI (s + 1)), .int (nI (s + 1 + (rf N cs (nL N i)).length)), .int (nI 1)] rfl np_Term_moveBack rfl (ev_lk_of (j := 0) rfl rfl) (t_moveBack (d := d + 1) (by omega) (by omega) (by omega) ev_up_s (ev_r1 ?_))
      rw [if_pos (Or.inl hx)] at hrt
      have h3 := sg_mb hg1' (show 1 ≤ s + 1 by omega) rfl
      rw [ev_up_up, show s + 1 + (rf N cs (nL N i)).length - 1 = s + (rf N cs i).length by rw [hrt]; omega]
      exact ev_ireturn (ev_dt dt_Term_putReduced_0 46 rfl) rfl rfl (kk _ (fun z hz => by rw [mb_lo (by omega)]; exact hfr z hz) (by rw [hrt]; exact h3))
    · refine ev_if_neF (tgt := 66) (ev_dt dt_Term_putReduced_0 35 rfl) (by decide) z00 ?_
      refine ev_aload_0 (ev_dt dt_Term_putReduced_0 36 rfl) ?_
      refine ev_callV (ev_dt dt_Term_putReduced_0 37 rfl) v_Term_56_9 ho2 [] rfl np_Term_pDecidesAlone rfl (ev_lk_of (j := 0) rfl rfl) (t_pDecides h99 ho2 (hP.kept (fun z q1 q2 => ev_up_n (by omega))) (hQ.kept (fun z q1 q2 => ev_up_n (by omega))) (fun hd => ev_r1 ?_) (fun hd => ev_r1 ?_))
      · refine ev_if_eqF (tgt := 76) (ev_dt dt_Term_putReduced_0 38 rfl) (by decide) z10 ?_
        refine ev_aload_1 (ev_dt dt_Term_putReduced_0 39 rfl) ?_
        refine ev_iload_2 (ev_dt dt_Term_putReduced_0 40 rfl) ?_
        refine ev_ic1 (ev_dt dt_Term_putReduced_0 41 rfl) ?_
        refine ev_addn (ev_dt dt_Term_putReduced_0 42 rfl) ?_
        refine ev_iload_3 (ev_dt dt_Term_putReduced_0 43 rfl) ?_
        refine ev_ic1 (ev_dt dt_Term_putReduced_0 44 rfl) ?_
        refine ev_callS (ev_dt dt_Term_putReduced_0 45 rfl) s_Term_60 [.ref b, .int (nI (s + 1)), .int (nI (s + 1 + (rf N cs (nL N i)).length)), .int (nI 1)] rfl np_Term_moveBack rfl (ev_lk_of (j := 0) rfl rfl) (t_moveBack (d := d + 1) (by omega) (by omega) (by omega) ev_up_s (ev_r1 ?_))
        rw [if_pos (Or.inr hd)] at hrt
        have h3 := sg_mb hg1' (show 1 ≤ s + 1 by omega) rfl
        rw [ev_up_up, show s + 1 + (rf N cs (nL N i)).length - 1 = s + (rf N cs i).length by rw [hrt]; omega]
        exact ev_ireturn (ev_dt dt_Term_putReduced_0 46 rfl) rfl rfl (kk _ (fun z hz => by rw [mb_lo (by omega)]; exact hfr z hz) (by rw [hrt]; exact h3))
      · refine ev_if_eqT (tgt := 76) (ev_dt dt_Term_putReduced_0 38 rfl) (by decide) z00 ?_
        refine ev_aload_0 (ev_dt dt_Term_putReduced_0 47 rfl) ?_
        refine ev_get (ev_dt dt_Term_putReduced_0 48 rfl) g_Term_33_9 ho2 rfl ?_
        refine ev_bipush (ev_dt dt_Term_putReduced_0 49 rfl) bi_7 ?_
        rw [if_neg (fun e => e.elim hx hd)] at hrt
        refine ev_icmp_eq (tgt := 112) (ev_dt dt_Term_putReduced_0 50 rfl) (by decide) (fun h7 => ?_) (fun h7 => ?_)
        · refine ev_iload_4 (ev_dt dt_Term_putReduced_1 9 rfl) ?_
          rw [if_neg (fun e => e.1 ((nI_eq (by omega) (by omega)).mp h7))] at hrt
          rw [show s + 1 + (rf N cs (nL N i)).length + (rf N cs (nQ N i)).length = s + (rf N cs i).length by rw [hrt]; simp; omega]
          exact ev_ireturn (ev_dt dt_Term_putReduced_1 10 rfl) rfl rfl (kk f2 hfr (by rw [hrt]; exact ⟨hk1, sg_app _ _ (s + 1) hg1' hg2⟩))
        · refine ev_aload_1 (ev_dt dt_Term_putReduced_0 51 rfl) ?_
          refine ev_iload_2 (ev_dt dt_Term_putReduced_0 52 rfl) ?_
          refine ev_ic1 (ev_dt dt_Term_putReduced_0 53 rfl) ?_
          refine ev_addn (ev_dt dt_Term_putReduced_0 54 rfl) ?_
          refine ev_iald (ev_dt dt_Term_putReduced_0 55 rfl) ev_up_s (by omega) (by decide) rfl ?_
          rw [hxt] at hg1'
          rw [hg1'.1]
          rw [← hxt] at hg1'
          refine ev_bipush (ev_dt dt_Term_putReduced_0 56 rfl) bi_9 ?_
          refine ev_icmp_ne (tgt := 112) (ev_dt dt_Term_putReduced_0 57 rfl) (by decide) (fun hx9 => ?_) (fun hx9 => ?_)
          · refine ev_iload_4 (ev_dt dt_Term_putReduced_1 9 rfl) ?_
            rw [if_neg (fun e => hx9 (by rw [hxt] at e; simpa using e.2.1))] at hrt
            rw [show s + 1 + (rf N cs (nL N i)).length + (rf N cs (nQ N i)).length = s + (rf N cs i).length by rw [hrt]; simp; omega]
            exact ev_ireturn (ev_dt dt_Term_putReduced_1 10 rfl) rfl rfl (kk f2 hfr (by rw [hrt]; exact ⟨hk1, sg_app _ _ (s + 1) hg1' hg2⟩))
          · refine ev_aload_1 (ev_dt dt_Term_putReduced_0 58 rfl) ?_
            refine ev_iload_3 (ev_dt dt_Term_putReduced_0 59 rfl) ?_
            refine ev_iald (ev_dt dt_Term_putReduced_1 0 rfl) ev_up_s (by omega) (by decide) rfl ?_
            rw [hyu] at hg2
            rw [hg2.1]
            rw [← hyu] at hg2
            refine ev_bipush (ev_dt dt_Term_putReduced_1 1 rfl) bi_9 ?_
            refine ev_icmp_ne (tgt := 112) (ev_dt dt_Term_putReduced_1 2 rfl) (by decide) (fun hy9 => ?_) (fun hy9 => ?_)
            · refine ev_iload_4 (ev_dt dt_Term_putReduced_1 9 rfl) ?_
              rw [if_neg (fun e => hy9 (by rw [hyu] at e; simpa using e.2.2))] at hrt
              rw [show s + 1 + (rf N cs (nL N i)).length + (rf N cs (nQ N i)).length = s + (rf N cs i).length by rw [hrt]; simp; omega]
              exact ev_ireturn (ev_dt dt_Term_putReduced_1 10 rfl) rfl rfl (kk f2 hfr (by rw [hrt]; exact ⟨hk1, sg_app _ _ (s + 1) hg1' hg2⟩))
            · refine ev_aload_1 (ev_dt dt_Term_putReduced_1 3 rfl) ?_
              refine ev_iload_2 (ev_dt dt_Term_putReduced_1 4 rfl) ?_
              refine ev_iload_3 (ev_dt dt_Term_putReduced_1 5 rfl) ?_
              refine ev_iload_4 (ev_dt dt_Term_putReduced_1 6 rfl) ?_
              subst hx9
              subst hy9
              refine ev_callS (ev_dt dt_Term_putReduced_1 7 rfl) s_Term_64 [.ref b, .int (nI s), .int (nI (s + 1 + (rf N cs (nL N i)).length)), .int (nI ((s + 1 + (rf N cs (nL N i)).length) + (rf N cs (nQ N i)).length))] rfl np_Term_pullDualOut rfl (ev_lk_of (j := 0) rfl rfl) (t_pullDualOut (d := d) (kd := nK N i) (tp := t) (tq := u) (by rw [hxt]) (by rw [hyu]) (by omega) ev_up_s hk1 (by rw [← hxt]; exact hg1') (by rw [← hyu]; exact hg2) (fun f3 hf3 hg3 => ev_r1 ?_))
              rw [if_pos ⟨fun e => h7 (by rw [e]), by rw [hxt]; rfl, by rw [hyu]; rfl⟩, hxt, hyu] at hrt
              have k2 := kk f3 (fun z hz => (hf3 z hz).trans (hfr z hz)) (by rw [hrt]; exact hg3)
              rw [hrt] at k2
              rw [ev_up_up]
              exact ev_ireturn (ev_dt dt_Term_putReduced_1 8 rfl) rfl rfl k2
  · have h9' : nK N i = 9 := (nI_eq (by omega) (by omega)).mp h9
    have hz9 := (hZ i hi).2.2.1 h9'
    refine ev_aload_1 (ev_dt dt_Term_putReduced_0 17 rfl) ?_
    refine ev_iload_2 (ev_dt dt_Term_putReduced_0 18 rfl) ?_
    refine ev_iload_3 (ev_dt dt_Term_putReduced_0 19 rfl) ?_
    refine ev_callS (ev_dt dt_Term_putReduced_0 20 rfl) s_Term_48 [.ref b, .int (nI s), .int (nI (s + 1 + (rf N cs (nL N i)).length))] rfl np_Term_reduceDual rfl (ev_lk_of (j := 1) rfl rfl) (t_reduceDual (d := d) (x := x) (t := t) (by rw [hxt]; simp; omega) (by omega) ev_up_s (by rw [hk0, h9']) (by rw [hxt] at hg1; exact hg1) (fun f2 hf2 hg2 => ev_r1 ?_))
    have hr : rf N cs i = rd (x :: t) := by rw [rf_t (by omega) ⟨hl, hq⟩, rt, if_pos h9', hxt]
    rw [ev_up_up]
    have k2 := kk f2 (fun z hz => by rw [hf2 z hz, hf1 z (by omega), pk_un (by omega)]) (by rw [hr]; exact hg2)
    rw [hr] at k2
    exact ev_ireturn (ev_dt dt_Term_putReduced_0 21 rfl) rfl rfl k2
/-- the reduced form of a node, put into the row of numbers -/
theorem t_put {N : nod} {ed : Nat → Nat → Int32} {zs : Nat → Nat} {cs : Nat → Int32} {ad : Nat → Nat} {b c : Nat} (hadr : ∀ j, j < c → b < ad j) (hZ : okZ N zs c) :
    ∀ i, i < c → ∀ d, i + 5 ≤ d → ∀ (h : ev_h) (s : Nat) (f : Nat → Int32), s + 4 * zs i ≤ 160 → (∀ j, j < c → NdAt E N ed zs cs ad j h) → h b = some (iA E 160 f) → pC E N cs ad b i d s f h sz k n := by
  intro i
  induction i using Nat.strongRecOn with
  | _ i ih =>
    intro hi d hd h s f hs hN hb Q kk
    have hne : ad i ≠ b := by have := hadr i hi; omega
    have hK9 : ∀ n, n < c → nK N n ≤ 9 := fun n hn => by
      rcases hN n hn with ⟨a, -⟩ | ⟨a, -⟩ | ⟨a, -⟩ | ⟨-, a, -⟩ <;> omega
    have hT : ∀ n, n < c → ¬ nK N n < 6 → nL N n < n ∧ nQ N n < n := fun n hn hk => by
      rcases hN n hn with ⟨a, -⟩ | ⟨a, -⟩ | ⟨a, -⟩ | ⟨-, -, a, b, -⟩
      · omega
      · omega
      · omega
      · exact ⟨a, b⟩
    have hz1 : nK N i < 6 → zs i = 1 := (hZ i hi).2.1
    rcases hN i hi with ⟨hk, hc, ho⟩ | ⟨hk, hc, ho, hy⟩ | ⟨hk, hc, ho, he, hr⟩ | ⟨h6, h9, hl, hq, ho⟩
    · rw [show pM N i = m_Order_putReduced from if_pos (by omega), show pL N i (ad i) b s = [some (.ref (ad i)), some (.ref b), some (.int (nI s))] from if_pos (by omega)]
      obtain ⟨d, rfl⟩ : ∃ e, d = e + 1 := ⟨d - 1, by omega⟩
      exact t_Order_put_6 hk (by have := hz1 (by omega); omega) ho hne hb kk
    · rw [show pM N i = m_Order_putReduced from if_pos (by omega), show pL N i (ad i) b s = [some (.ref (ad i)), some (.ref b), some (.int (nI s))] from if_pos (by omega)]
      obtain ⟨d, rfl⟩ : ∃ e, d = e + 1 := ⟨d - 1, by omega⟩
      exact t_Order_put_7 hk (by have := hz1 (by omega); omega) ho hne hb kk
    · rw [show pM N i = m_Order_putReduced from if_pos (by omega), show pL N i (ad i) b s = [some (.ref (ad i)), some (.ref b), some (.int (nI s))] from if_pos (by omega)]
      obtain ⟨d, rfl⟩ : ∃ e, d = e + 1 := ⟨d - 1, by omega⟩
      exact t_Order_put_8 hk (by have := hz1 (by omega); omega) ho hne hb kk
    · rw [show pM N i = m_Term_putReduced from if_neg (by omega), show pL N i (ad i) b s = [some (.ref (ad i)), some (.ref b), some (.int (nI s)), none, none] from if_neg (by omega)]
      obtain ⟨d, rfl⟩ : ∃ e, d = e + 3 := ⟨d - 3, by omega⟩
      exact t_Term_put hi h6 h9 hl hq hs ho hne hb hN hadr hZ hK9 hT (fun h' s' f' a b' c' => ih (nL N i) hl (by omega) (d + 2) (by omega) h' s' f' a b' c') (fun h' s' f' a b' c' => ih (nQ N i) hq (by omega) (d + 2) (by omega) h' s' f' a b' c') kk
end C10
end
section
/-! What is not castable: givens of the statement, not words of the tables (written by gen_not.py). -/
def ev_np2 : List (String × String) := [("PreferTable$Graph", "PreferTable$Layers"), ("PreferTable$ValueOrder", "PreferTable$Layers"), ("PreferTable$Term", "PreferTable$Layers"), ("PreferTable$Layers", "PreferTable$Graph"), ("PreferTable$ValueOrder", "PreferTable$Graph"), ("PreferTable$Term", "PreferTable$Graph"), ("PreferTable$Layers", "PreferTable$Term"), ("PreferTable$Graph", "PreferTable$Term"), ("PreferTable$ValueOrder", "PreferTable$Term"), ("java/lang/IllegalStateException", "java/lang/IndexOutOfBoundsException"), ("java/lang/IllegalStateException", "java/lang/IllegalArgumentException"), ("java/lang/IndexOutOfBoundsException", "java/lang/IllegalStateException"), ("java/lang/IndexOutOfBoundsException", "java/lang/IllegalArgumentException"), ("java/lang/IllegalArgumentException", "java/lang/IllegalStateException"), ("java/lang/IllegalArgumentException", "java/lang/IndexOutOfBoundsException")]
def ev_nok (E : ev_E) : Prop := ∀ q ∈ ev_np2, (Cond.not (.castable q.1 q.2)).before E.2.2.2.2 E.2.2.2.1 = true
theorem ev_nc {E : ev_E} {M : ev_M} {p : Program} {s : State} {m : MethodId} {meth : Method} {c : Code} (hE : ev_nok E) (hC : ev_C E M p s m meth c) {a b : String} (hw : (a, b) ∈ ev_np2) : va_Nc a b s := va_Nc.moved hC.wm.alike (va_Nc.of (hE _ hw))
section EVN
variable {E : ev_E} {M : ev_M} {d pc pc' : Nat} {ls : List (Option Value)} {st : List Value} {h : ev_h} {sz k n : Nat} {Q : ev_Q}
theorem ev_isnt {index a ci N : Nat} {C nm : String} {T : u_T} {fs : List Value} (hd : ev_d M pc (.instanceof index) 3 pc') (hl : Cond.classLink M.1.cls index nm ∈ lw_tbl) (hc : ev_cl[ci]? = some (C, T, N)) (hE : ev_nok E) (hno : (C, nm) ∈ ev_np2) (he : h a = some (oB ci fs))
    (kk : Ev E M d pc' ls (.int 0 :: st) h sz k n Q) : Ev E M d pc ls (.ref a :: st) h sz k n Q := by
  obtain ⟨hd, rfl⟩ := hd
  intro p e R s m args below meth c H locs cells slots lsr hC hR hL h1 h2 h3 h4
  have kw := kk p e R s m args below meth c H locs cells slots lsr hC hR hL h1 h2 h3 h4
  exact va_instNo hC.ex hC.cd hC.ow (hC.w hl (ev_gdT rfl) args) (ev_nc hE hC hno) (va_recv hC.K (ev_P1 (hR.1 a _ he)) hc (q0 := 0) rfl) hd kw
theorem ev_catch2n {a ci s1 e1 hp1 ct1 s2 e2 hp ct N : Nat} {tl : List (Nat × Nat × Nat × Nat)} {X nm1 nm : String} {TX : u_T} {fs : List Value} (hx : M.2.2.2.2 = (s1, e1, hp1, ct1) :: (s2, e2, hp, ct) :: tl) (hcov1 : (decide (s1 ≤ pc) && decide (pc < e1)) = true) (hcov : (decide (s2 ≤ pc) && decide (pc < e2)) = true) (hct1 : ct1 ≠ 0) (hct : ct ≠ 0) (hl1 : Cond.classLink M.1.cls ct1 nm1 ∈ lw_tbl) (hl : Cond.classLink M.1.cls ct nm ∈ lw_tbl) (hci : ev_cl[ci]? = some (X, TX, N)) (hE : ev_nok E) (hno : (X, nm1) ∈ ev_np2) (hcast : Cond.castable X nm ∈ lw_tbl) (he : h a = some (.inr (ci, fs)))
    (kk : Ev E M d hp ls [.ref a] h sz k n Q) : Et E M d pc ls a h sz k n Q := by
  intro p e R s m args below meth c T locs cells slots lsr st hC hR hL h1 h2 h3 h4 X0
  have hpl : e.platform.magicAccessors = ({} : Platform).magicAccessors := by rw [X0.admits.platform]
  have hxt := hC.xt
  rw [hx] at hxt
  obtain ⟨x1, xs1, ht1, hx11, hx12⟩ := List.map_eq_cons_iff.mp hxt
  obtain ⟨x, xs, ht, hx1, hx2⟩ := List.map_eq_cons_iff.mp hx12
  have w1 : x1.startPc = s1 := congrArg (fun q => q.1) hx11
  have w2 : x1.endPc = e1 := congrArg (fun q => q.2.1) hx11
  have w4 : x1.catchType = ct1 := congrArg (fun q => q.2.2.2) hx11
  have y1 : x.startPc = s2 := congrArg (fun q => q.1) hx1
  have y2 : x.endPc = e2 := congrArg (fun q => q.2.1) hx1
  have y3 : x.handlerPc = hp := congrArg (fun q => q.2.2.1) hx1
  have y4 : x.catchType = ct := congrArg (fun q => q.2.2.2) hx1
  obtain ⟨c1, hc1, hcl1⟩ := Cond.classLink_spec hC.ow (hC.w hl1 (ev_gdT rfl) args) e.platform hpl
  rw [← w4] at hcl1
  obtain ⟨cT, hcT, hcl⟩ := Cond.classLink_spec hC.ow (hC.w hl (ev_gdT rfl) args) e.platform hpl
  rw [← y4] at hcl
  obtain ⟨dk1, _, _, kt1, hdk1, _, _, _, _, hkt1, _, hopen1⟩ := hcl1.here
  obtain ⟨dk, _, _, kt, hdk, _, _, _, _, hkt, _, hopen⟩ := hcl.here
  have hW1 : s.WarmedH (T.vm.noted m.cls x1.catchType (.cls c1)) := X0.warmed.noted hdk1 hopen1 (State.rightAt_cls hcl1)
  have hW' : s.WarmedH ((T.vm.noted m.cls x1.catchType (.cls c1)).noted m.cls x.catchType (.cls cT)) := hW1.noted hdk hopen (State.rightAt_cls hcl)
  obtain ⟨cell, hcell, hobj, hcls⟩ := va_recv hC.K (ev_P1 (hR.1 a _ he)) hci (q0 := 0) rfl
  obtain ⟨c0, t0, f1, f2, f3⟩ := Cond.castable_spec (hC.w hcast ev_gdC args)
  cases hcls.symm.trans f1
  cases hcT.symm.trans f2
  obtain ⟨c0', t0', g1, g2, g3⟩ := ev_nc hE hC hno
  cases hcls.symm.trans g1
  cases hc1.symm.trans g2
  have hal := X0.warmed.alike
  obtain ⟨kt1', hkt1', -⟩ := hal.2.2 _ _ hkt1
  obtain ⟨kt', hkt', -⟩ := hal.2.2 _ _ hkt
  obtain ⟨kt2, hkt2, -⟩ := hW1.alike.2.2 _ _ hkt
  have hfitT : T.vm.assignable cell.cls cT = true := by rw [hal.assignable]; exact f3
  have hnofit : ¬ T.vm.assignable cell.cls c1 = true := by rw [hal.assignable, g3]; decide
  have hfit : (T.vm.noted m.cls x1.catchType (.cls c1)).assignable cell.cls cT = true := by rw [hW1.alike.assignable]; exact f3
  have hfind : ev_Fi e ((T.setTop (F0 m pc lsr st)).pushFrame (.throwing a)) (F0 m pc lsr st) a (.found x.handlerPc) ((T.vm.noted m.cls x1.catchType (.cls c1)).noted m.cls x.catchType (.cls cT)) := by
    intro Q1 E1 d1 acts
    refine (W.findHandler_eq (s := (T.setTop (F0 m pc lsr st)).pushFrame (.throwing a)) (f := F0 m pc lsr st) (meth := meth) (code := c) X0.method' X0.code).trans ?_
    rw [ht1, ht]
    refine (ev_go (s := (T.setTop (F0 m pc lsr st)).pushFrame (.throwing a)) (e := e) (f := F0 m pc lsr st) (a := a) (x := x1) (t := x :: xs) (c := c1) (cell := cell) (by show (decide (x1.startPc ≤ pc) && decide (pc < x1.endPc)) = true; rw [w1, w2]; exact hcov1) (by rw [w4]; exact hct1) (X0.warmed.classLinks hcl1) hcell (VmData.ne_statics_of hobj) (Vm.classAt_of_assignable hfitT ⟨kt', hkt'⟩) ⟨kt1', hkt1'⟩).trans ?_
    refine (Iff.of_eq (if_neg hnofit)).trans ?_
    refine (ev_go (s := ((T.setTop (F0 m pc lsr st)).pushFrame (.throwing a)).setVm (T.vm.noted m.cls x1.catchType (.cls c1))) (e := e) (f := F0 m pc lsr st) (a := a) (x := x) (t := xs) (c := cT) (cell := cell) (by show (decide (x.startPc ≤ pc) && decide (pc < x.endPc)) = true; rw [y1, y2]; exact hcov) (by rw [y4]; exact hct) (hW1.classLinks hcl) hcell (VmData.ne_statics_of hobj) (Vm.classAt_of_assignable hfit ⟨kt2, hkt2⟩) ⟨kt2, hkt2⟩).trans ?_
    exact Iff.of_eq (if_pos hfit)
  obtain ⟨t, s1', z⟩ := kk p e R s m args below meth c (T.setVm ((T.vm.noted m.cls x1.catchType (.cls c1)).noted m.cls x.catchType (.cls cT))).heap locs cells slots lsr hC hR hL h1 h2 h3 h4 _ rfl (X0.noted hW')
  refine ⟨t, ev_caught X0.here hfind ?_, z⟩
  rw [y3]
  exact s1'
end EVN
end
section
/-! Graphs grow; the walk to the order that decides (written by gen_c11.py over walk.py). -/
/-- the next node on the way -/
def nx (N : nod) (U V : Nat → Int32) (i : Nat) : Nat := if nK N i = 6 then (if say N U V (nL N i) = 1 then nL N i else nQ N i) else if nK N i = 7 then (if say N U V (nL N i) = 3 then nQ N i else nL N i) else nL N i
/-- the order that decides, and how many nodes are passed -/
def wk (N : nod) : Nat → (Nat → Int32) → (Nat → Int32) → Nat → Nat × Nat
  | 0, _, _, i => (i, 1)
  | f + 1, U, V, i => if nK N i < 6 then (i, 1) else ((wk N f (if nK N i = 9 then V else U) (if nK N i = 9 then U else V) (nx N U V i)).1, (wk N f (if nK N i = 9 then V else U) (if nK N i = 9 then U else V) (nx N U V i)).2 + 1)
theorem wk_o {N : nod} {i : Nat} (hk : nK N i < 6) (U V : Nat → Int32) : ∀ f, wk N f U V i = (i, 1)
  | 0 => rfl
  | f + 1 => by rw [wk, if_pos hk]
theorem wk_t {N : nod} {i f : Nat} (hk : ¬ nK N i < 6) (U V : Nat → Int32) : wk N (f + 1) U V i = ((wk N f (if nK N i = 9 then V else U) (if nK N i = 9 then U else V) (nx N U V i)).1, (wk N f (if nK N i = 9 then V else U) (if nK N i = 9 then U else V) (nx N U V i)).2 + 1) := by rw [wk, if_neg hk]
theorem nx_lt {N : nod} {U V : Nat → Int32} {i : Nat} (hl : nL N i < i) (hq : nQ N i < i) : nx N U V i < i := by
  unfold nx
  split
  · split <;> assumption
  · split
    · split <;> assumption
    · assumption
section C11
variable {E : ev_E} {d : Nat} {h : ev_h} {sz k n : Nat} {Q : ev_Q}
theorem t_g_leads {a : Nat} {g1 g2 g3 g4 g5 : Value} {r : Nat → Int32} (ho : h a = some (oB 8 [.ref (a + 1), .ref (a + 2), g1, g2, g3, g4, g5])) {x y : Nat} (hx : x < 10) (hy : y < 10) (hr : h (a + 2) = some (iA E 10 r)) (kt : bt (r x) y = true → Q (.returned (some (.int (nI 1)))) h sz k n) (kf : bt (r x) y = false → Q (.returned (some (.int (nI 0)))) h sz k n) : Ev E m_Graph_leads d 0 [some (.ref a), some (.int (nI x)), some (.int (nI y))] [] h sz k n Q := by
  refine ev_aload_0 (ev_dt dt_Graph_leads_0 0 rfl) ?_
  refine ev_get (ev_dt dt_Graph_leads_0 1 rfl) g_Graph_15_8 ho rfl ?_
  refine ev_iload_1 (ev_dt dt_Graph_leads_0 2 rfl) ?_
  refine ev_iald (ev_dt dt_Graph_leads_0 3 rfl) hr (by omega) (by decide) rfl ?_
  refine ev_iload_2 (ev_dt dt_Graph_leads_0 4 rfl) ?_
  refine ev_ishr (ev_dt dt_Graph_leads_0 5 rfl) rfl ?_
  refine ev_ic1 (ev_dt dt_Graph_leads_0 6 rfl) ?_
  refine ev_iand (ev_dt dt_Graph_leads_0 7 rfl) rfl ?_
  refine ev_ic1 (ev_dt dt_Graph_leads_0 8 rfl) ?_
  refine ev_icmp_ne (tgt := 18) (ev_dt dt_Graph_leads_0 9 rfl) (by decide) (fun h1 => ?_) (fun h1 => ?_)
  · refine ev_ic0 (ev_dt dt_Graph_leads_0 12 rfl) ?_
    exact ev_ireturn (ev_dt dt_Graph_leads_0 13 rfl) rfl bz0 (kf (Bool.eq_false_iff.mpr (fun e => h1 ((q_tst (by omega)).mpr e))))
  · refine ev_ic1 (ev_dt dt_Graph_leads_0 10 rfl) ?_
    refine ev_goto (tgt := 19) (ev_dt dt_Graph_leads_0 11 rfl) (by decide) ?_
    exact ev_ireturn (ev_dt dt_Graph_leads_0 13 rfl) rfl bz1 (kt ((q_tst (by omega)).mp h1))
theorem t_g_hasEdge {a : Nat} {g1 g2 g3 g4 g5 : Value} {e : Nat → Int32} (ho : h a = some (oB 8 [.ref (a + 1), .ref (a + 2), g1, g2, g3, g4, g5])) {x y : Nat} (hx : x < 10) (hy : y < 10) (he : h (a + 1) = some (iA E 10 e)) (kt : bt (e x) y = true → Q (.returned (some (.int (nI 1)))) h sz k n) (kf : bt (e x) y = false → Q (.returned (some (.int (nI 0)))) h sz k n) : Ev E m_Graph_hasEdge d 0 [some (.ref a), some (.int (nI x)), some (.int (nI y))] [] h sz k n Q := by
  refine ev_aload_0 (ev_dt dt_Graph_hasEdge_0 0 rfl) ?_
  refine ev_get (ev_dt dt_Graph_hasEdge_0 1 rfl) g_Graph_9_8 ho rfl ?_
  refine ev_iload_1 (ev_dt dt_Graph_hasEdge_0 2 rfl) ?_
  refine ev_iald (ev_dt dt_Graph_hasEdge_0 3 rfl) he (by omega) (by decide) rfl ?_
  refine ev_iload_2 (ev_dt dt_Graph_hasEdge_0 4 rfl) ?_
  refine ev_ishr (ev_dt dt_Graph_hasEdge_0 5 rfl) rfl ?_
  refine ev_ic1 (ev_dt dt_Graph_hasEdge_0 6 rfl) ?_
  refine ev_iand (ev_dt dt_Graph_hasEdge_0 7 rfl) rfl ?_
  refine ev_ic1 (ev_dt dt_Graph_hasEdge_0 8 rfl) ?_
  refine ev_icmp_ne (tgt := 18) (ev_dt dt_Graph_hasEdge_0 9 rfl) (by decide) (fun h1 => ?_) (fun h1 => ?_)
  · refine ev_ic0 (ev_dt dt_Graph_hasEdge_0 12 rfl) ?_
    exact ev_ireturn (ev_dt dt_Graph_hasEdge_0 13 rfl) rfl bz0 (kf (Bool.eq_false_iff.mpr (fun e => h1 ((q_tst (by omega)).mpr e))))
  · refine ev_ic1 (ev_dt dt_Graph_hasEdge_0 10 rfl) ?_
    refine ev_goto (tgt := 19) (ev_dt dt_Graph_hasEdge_0 11 rfl) (by decide) ?_
    exact ev_ireturn (ev_dt dt_Graph_hasEdge_0 13 rfl) rfl bz1 (kt ((q_tst (by omega)).mp h1))
theorem t_Graph_join {a : Nat} {g1 g2 g3 g4 g5 : Value} {e r : Nat → Int32} (ho : h a = some (oB 8 [.ref (a + 1), .ref (a + 2), g1, g2, g3, g4, g5])) {b w : Nat} (hb : b < 10) (hw : w < 10) (he : h (a + 1) = some (iA E 10 e)) (hr : h (a + 2) = some (iA E 10 r)) (kk : ∀ f', (∀ z, z < 10 → f' z = rJ r b w z) → Q (.returned none) (ev_up (ev_up h (a + 1) (iA E 10 (eJ e b w))) (a + 2) (iA E 10 f')) sz k n) : Ev E m_Graph_join (d + 1) 0 [some (.ref a), some (.int (nI b)), some (.int (nI w)), none, none] [] h sz k n Q := by
  have loop : ∀ m' j (g : Nat → Int32), j + m' = 10 → (∀ z, z < j → g z = rJ r b w z) → (∀ z, j ≤ z → g z = r z) → Ev E m_Graph_join (d + 1) 26 [some (.ref a), some (.int (nI b)), some (.int (nI w)), some (.int (((nI 1) <<< ((nI w) &&& 31)) ||| (r w))), some (.int (nI j))] [] (ev_up (ev_up h (a + 1) (iA E 10 (upd e b ((e b) ||| ((nI 1) <<< ((nI w) &&& 31)))))) (a + 2) (iA E 10 g)) sz k n Q := by
    intro m'
    induction m' with
    | zero =>
      intro j g hj hI hJ
      refine ev_iload_4 (ev_dt dt_Graph_join_0 21 rfl) ?_
      refine ev_bipush (ev_dt dt_Graph_join_0 22 rfl) bi_10 ?_
      refine ev_icmp_geT (tgt := 66) (ev_dt dt_Graph_join_0 23 rfl) (by decide) (nI_le (by omega) (by omega)) ?_
      exact ev_return (ev_dt dt_Graph_join_0 42 rfl) rfl (kk g (fun z hz => hI z (by omega)))
    | succ m' ih =>
      intro j g hj hI hJ
      refine ev_iload_4 (ev_dt dt_Graph_join_0 21 rfl) ?_
      refine ev_bipush (ev_dt dt_Graph_join_0 22 rfl) bi_10 ?_
      refine ev_icmp_geF (tgt := 66) (ev_dt dt_Graph_join_0 23 rfl) (by decide) (nI_ge (by omega) (by omega)) ?_
      refine ev_iload_4 (ev_dt dt_Graph_join_0 24 rfl) ?_
      refine ev_iload_1 (ev_dt dt_Graph_join_0 25 rfl) ?_
      refine ev_icmp_eq (tgt := 49) (ev_dt dt_Graph_join_0 26 rfl) (by decide) (fun hx => ?_) (fun hx => ?_)
      · have hx' : j = b := (nI_eq (by omega) (by omega)).mp hx
        refine ev_aload_0 (ev_dt dt_Graph_join_0 32 rfl) ?_
        refine ev_get (ev_dt dt_Graph_join_0 33 rfl) g_Graph_15_8 ((ev_up_n (by omega)).trans ((ev_up_n (by omega)).trans ho)) rfl ?_
        refine ev_iload_4 (ev_dt dt_Graph_join_0 34 rfl) ?_
        refine ev_dup2 (ev_dt dt_Graph_join_0 35 rfl) rfl rfl ?_
        refine ev_iald (ev_dt dt_Graph_join_0 36 rfl) ev_up_s (by omega) (by decide) rfl ?_
        refine ev_iload_3 (ev_dt dt_Graph_join_0 37 rfl) ?_
        refine ev_ior (ev_dt dt_Graph_join_0 38 rfl) rfl ?_
        refine ev_iast (ev_dt dt_Graph_join_0 39 rfl) ev_up_s (by omega) (by decide) ?_
        refine ev_inc1_4 (ev_dt dt_Graph_join_0 40 rfl) (by decide) rfl ?_
        refine ev_goto (tgt := 26) (ev_dt dt_Graph_join_0 41 rfl) (by decide) ?_
        rw [ev_up_up]
        have hrj : rJ r b w j = r j ||| (nI 1 <<< (nI w &&& 31) ||| r w) := if_pos (Or.inl hx')
        refine ih (j + 1) _ (by omega) (fun z hz => ?_) (fun z hz => by rw [pk_un (by omega)]; exact hJ z (by omega))
        by_cases e : z = j
        · subst e; rw [pk_us, hJ z (Nat.le_refl _), hrj]
        · rw [pk_un e]; exact hI z (by omega)
      · have hx' : j ≠ b := fun e => hx (by rw [e])
        refine ev_aload_0 (ev_dt dt_Graph_join_0 27 rfl) ?_
        refine ev_iload_4 (ev_dt dt_Graph_join_0 28 rfl) ?_
        refine ev_iload_1 (ev_dt dt_Graph_join_0 29 rfl) ?_
        refine ev_callV (ev_dt dt_Graph_join_0 30 rfl) v_Graph_22_8 ((ev_up_n (by omega)).trans ((ev_up_n (by omega)).trans ho)) [.int (nI j), .int (nI b)] rfl np_Graph_leads rfl (ev_lk_of (j := 0) rfl rfl) (t_g_leads ((ev_up_n (by omega)).trans ((ev_up_n (by omega)).trans ho)) (by omega) hb ev_up_s (fun hy => ev_r1 ?_) (fun hy => ev_r1 ?_))
        · rw [hJ j (Nat.le_refl _)] at hy
          refine ev_if_eqF (tgt := 60) (ev_dt dt_Graph_join_0 31 rfl) (by decide) z10 ?_
          refine ev_aload_0 (ev_dt dt_Graph_join_0 32 rfl) ?_
          refine ev_get (ev_dt dt_Graph_join_0 33 rfl) g_Graph_15_8 ((ev_up_n (by omega)).trans ((ev_up_n (by omega)).trans ho)) rfl ?_
          refine ev_iload_4 (ev_dt dt_Graph_join_0 34 rfl) ?_
          refine ev_dup2 (ev_dt dt_Graph_join_0 35 rfl) rfl rfl ?_
          refine ev_iald (ev_dt dt_Graph_join_0 36 rfl) ev_up_s (by omega) (by decide) rfl ?_
          refine ev_iload_3 (ev_dt dt_Graph_join_0 37 rfl) ?_
          refine ev_ior (ev_dt dt_Graph_join_0 38 rfl) rfl ?_
          refine ev_iast (ev_dt dt_Graph_join_0 39 rfl) ev_up_s (by omega) (by decide) ?_
          refine ev_inc1_4 (ev_dt dt_Graph_join_0 40 rfl) (by decide) rfl ?_
          refine ev_goto (tgt := 26) (ev_dt dt_Graph_join_0 41 rfl) (by decide) ?_
          rw [ev_up_up]
          have hrj : rJ r b w j = r j ||| (nI 1 <<< (nI w &&& 31) ||| r w) := if_pos (Or.inr hy)
          refine ih (j + 1) _ (by omega) (fun z hz => ?_) (fun z hz => by rw [pk_un (by omega)]; exact hJ z (by omega))
          by_cases e : z = j
          · subst e; rw [pk_us, hJ z (Nat.le_refl _), hrj]
          · rw [pk_un e]; exact hI z (by omega)
        · rw [hJ j (Nat.le_refl _)] at hy
          refine ev_if_eqT (tgt := 60) (ev_dt dt_Graph_join_0 31 rfl) (by decide) z00 ?_
          refine ev_inc1_4 (ev_dt dt_Graph_join_0 40 rfl) (by decide) rfl ?_
          refine ev_goto (tgt := 26) (ev_dt dt_Graph_join_0 41 rfl) (by decide) ?_
          have hrj : rJ r b w j = r j := if_neg (fun e => e.elim hx' (fun e => by rw [hy] at e; cases e))
          refine ih (j + 1) _ (by omega) (fun z hz => ?_) (fun z hz => hJ z (by omega))
          by_cases e : z = j
          · subst e; rw [hJ z (Nat.le_refl _), hrj]
          · exact hI z (by omega)
  refine ev_aload_0 (ev_dt dt_Graph_join_0 0 rfl) ?_
  refine ev_get (ev_dt dt_Graph_join_0 1 rfl) g_Graph_9_8 ho rfl ?_
  refine ev_iload_1 (ev_dt dt_Graph_join_0 2 rfl) ?_
  refine ev_dup2 (ev_dt dt_Graph_join_0 3 rfl) rfl rfl ?_
  refine ev_iald (ev_dt dt_Graph_join_0 4 rfl) he (by omega) (by decide) rfl ?_
  refine ev_ic1 (ev_dt dt_Graph_join_0 5 rfl) ?_
  refine ev_iload_2 (ev_dt dt_Graph_join_0 6 rfl) ?_
  refine ev_ishl (ev_dt dt_Graph_join_0 7 rfl) rfl ?_
  refine ev_ior (ev_dt dt_Graph_join_0 8 rfl) rfl ?_
  refine ev_iast (ev_dt dt_Graph_join_0 9 rfl) he (by omega) (by decide) ?_
  refine ev_ic1 (ev_dt dt_Graph_join_0 10 rfl) ?_
  refine ev_iload_2 (ev_dt dt_Graph_join_0 11 rfl) ?_
  refine ev_ishl (ev_dt dt_Graph_join_0 12 rfl) rfl ?_
  refine ev_aload_0 (ev_dt dt_Graph_join_0 13 rfl) ?_
  refine ev_get (ev_dt dt_Graph_join_0 14 rfl) g_Graph_15_8 ((ev_up_n (by omega)).trans ho) rfl ?_
  refine ev_iload_2 (ev_dt dt_Graph_join_0 15 rfl) ?_
  refine ev_iald (ev_dt dt_Graph_join_0 16 rfl) ((ev_up_n (by omega)).trans hr) (by omega) (by decide) rfl ?_
  refine ev_ior (ev_dt dt_Graph_join_0 17 rfl) rfl ?_
  refine ev_istore_3 (ev_dt dt_Graph_join_0 18 rfl) (by decide) rfl ?_
  refine ev_ic0 (ev_dt dt_Graph_join_0 19 rfl) ?_
  refine ev_istore_4 (ev_dt dt_Graph_join_0 20 rfl) (by decide) rfl ?_
  have h0 : ev_up (ev_up h (a + 1) (iA E 10 (upd e b ((e b) ||| ((nI 1) <<< ((nI w) &&& 31)))))) (a + 2) (iA E 10 r) = (ev_up h (a + 1) (iA E 10 (upd e b ((e b) ||| ((nI 1) <<< ((nI w) &&& 31)))))) := ev_up_self ((ev_up_n (by omega)).trans hr)
  rw [← h0]
  exact loop 10 0 r (by omega) (fun z hz => absurd hz (Nat.not_lt_zero _)) (fun z hz => rfl)
theorem t_partThatDecides {N : nod} {ed : Nat → Nat → Int32} {zs : Nat → Nat} {cs : Nat → Int32} {ad : Nat → Nat} {i : Nat} {c u v : Nat} {U V : Nat → Int32} (hi : i < c) (hdd : i + 5 ≤ d) (h6 : 6 ≤ nK N i) (h9 : nK N i ≤ 9) (hl : nL N i < i) (hq : nQ N i < i) (ho : h (ad i) = some (oB 9 [.ref (ad (nL N i)), .ref (ad (nQ N i)), .int (nI (nK N i)), .int (nI i), .int (nI (zs i)), .int (cs i)])) (hN : ∀ j, j < c → NdAt E N ed zs cs ad j h) (hu : h u = some (iA E 4 U)) (hv : h v = some (iA E 4 V)) (kk : Q (.returned (some (.ref (ad (nx N U V i))))) h sz k n) : Ev E m_Term_partThatDecides (d + 1) 0 [some (.ref (ad i)), some (.ref u), some (.ref v)] [] h sz k n Q := by
  obtain hk | hk | hk | hk : nK N i = 6 ∨ nK N i = 7 ∨ nK N i = 8 ∨ nK N i = 9 := by omega
  · refine ev_aload_0 (ev_dt dt_Term_partThatDecides_0 0 rfl) ?_
    refine ev_get (ev_dt dt_Term_partThatDecides_0 1 rfl) g_Term_33_9 ho rfl ?_
    rw [hk]
    refine ev_look (tgt := 32) (off := 28) (ev_dt dt_Term_partThatDecides_0 2 rfl) (by decide +kernel) (by decide +kernel) (by decide) ?_
    refine ev_aload_0 (ev_dt dt_Term_partThatDecides_0 3 rfl) ?_
    refine ev_get (ev_dt dt_Term_partThatDecides_0 4 rfl) g_Term_19_9 ho rfl ?_
    refine ev_aload_1 (ev_dt dt_Term_partThatDecides_0 5 rfl) ?_
    refine ev_aload_2 (ev_dt dt_Term_partThatDecides_0 6 rfl) ?_
    refine ev_saysG (ev_dt dt_Term_partThatDecides_0 7 rfl) u_Term_29_6 u_Term_29_7 u_Term_29_8 u_Term_29_9 (hN (nL N i) (by omega)) rfl (t_says hN hu hv (nL N i) (by omega) d (by omega)) ?_
    refine ev_ic1 (ev_dt dt_Term_partThatDecides_0 8 rfl) ?_
    refine ev_icmp_ne (tgt := 52) (ev_dt dt_Term_partThatDecides_0 9 rfl) (by decide) (fun h1 => ?_) (fun h1 => ?_)
    · have hx : nx N U V i = nQ N i := by unfold nx; rw [hk]; rw [if_pos rfl]; exact if_neg (fun e => h1 (by rw [e]; rfl))
      rw [hx] at kk
      refine ev_aload_0 (ev_dt dt_Term_partThatDecides_0 13 rfl) ?_
      refine ev_get (ev_dt dt_Term_partThatDecides_0 14 rfl) g_Term_23_9 ho rfl ?_
      exact ev_areturn (ev_dt dt_Term_partThatDecides_0 15 rfl) rfl kk
    · have hx : nx N U V i = nL N i := by unfold nx; rw [hk]; rw [if_pos rfl]; exact if_pos (nv.mp h1)
      rw [hx] at kk
      refine ev_aload_0 (ev_dt dt_Term_partThatDecides_0 10 rfl) ?_
      refine ev_get (ev_dt dt_Term_partThatDecides_0 11 rfl) g_Term_19_9 ho rfl ?_
      refine ev_goto (tgt := 56) (ev_dt dt_Term_partThatDecides_0 12 rfl) (by decide) ?_
      exact ev_areturn (ev_dt dt_Term_partThatDecides_0 15 rfl) rfl kk
  · refine ev_aload_0 (ev_dt dt_Term_partThatDecides_0 0 rfl) ?_
    refine ev_get (ev_dt dt_Term_partThatDecides_0 1 rfl) g_Term_33_9 ho rfl ?_
    rw [hk]
    refine ev_look (tgt := 57) (off := 53) (ev_dt dt_Term_partThatDecides_0 2 rfl) (by decide +kernel) (by decide +kernel) (by decide) ?_
    refine ev_aload_0 (ev_dt dt_Term_partThatDecides_0 16 rfl) ?_
    refine ev_get (ev_dt dt_Term_partThatDecides_0 17 rfl) g_Term_19_9 ho rfl ?_
    refine ev_aload_1 (ev_dt dt_Term_partThatDecides_0 18 rfl) ?_
    refine ev_aload_2 (ev_dt dt_Term_partThatDecides_0 19 rfl) ?_
    refine ev_saysG (ev_dt dt_Term_partThatDecides_0 20 rfl) u_Term_29_6 u_Term_29_7 u_Term_29_8 u_Term_29_9 (hN (nL N i) (by omega)) rfl (t_says hN hu hv (nL N i) (by omega) d (by omega)) ?_
    refine ev_ic3 (ev_dt dt_Term_partThatDecides_0 21 rfl) ?_
    refine ev_icmp_ne (tgt := 77) (ev_dt dt_Term_partThatDecides_0 22 rfl) (by decide) (fun h1 => ?_) (fun h1 => ?_)
    · have hx : nx N U V i = nL N i := by unfold nx; rw [hk, if_neg (by decide)]; rw [if_pos rfl]; exact if_neg (fun e => h1 (by rw [e]; rfl))
      rw [hx] at kk
      refine ev_aload_0 (ev_dt dt_Term_partThatDecides_0 26 rfl) ?_
      refine ev_get (ev_dt dt_Term_partThatDecides_0 27 rfl) g_Term_19_9 ho rfl ?_
      exact ev_areturn (ev_dt dt_Term_partThatDecides_0 28 rfl) rfl kk
    · have hx : nx N U V i = nQ N i := by unfold nx; rw [hk, if_neg (by decide)]; rw [if_pos rfl]; exact if_pos (nv.mp h1)
      rw [hx] at kk
      refine ev_aload_0 (ev_dt dt_Term_partThatDecides_0 23 rfl) ?_
      refine ev_get (ev_dt dt_Term_partThatDecides_0 24 rfl) g_Term_23_9 ho rfl ?_
      refine ev_goto (tgt := 81) (ev_dt dt_Term_partThatDecides_0 25 rfl) (by decide) ?_
      exact ev_areturn (ev_dt dt_Term_partThatDecides_0 28 rfl) rfl kk
  · refine ev_aload_0 (ev_dt dt_Term_partThatDecides_0 0 rfl) ?_
    refine ev_get (ev_dt dt_Term_partThatDecides_0 1 rfl) g_Term_33_9 ho rfl ?_
    rw [hk]
    refine ev_look (tgt := 82) (off := 78) (ev_dt dt_Term_partThatDecides_0 2 rfl) (by decide +kernel) (by decide +kernel) (by decide) ?_
    refine ev_aload_0 (ev_dt dt_Term_partThatDecides_0 29 rfl) ?_
    refine ev_get (ev_dt dt_Term_partThatDecides_0 30 rfl) g_Term_19_9 ho rfl ?_
    have hx : nx N U V i = nL N i := by unfold nx; rw [hk, if_neg (by decide), if_neg (by decide)]
    rw [hx] at kk
    exact ev_areturn (ev_dt dt_Term_partThatDecides_0 31 rfl) rfl kk
  · refine ev_aload_0 (ev_dt dt_Term_partThatDecides_0 0 rfl) ?_
    refine ev_get (ev_dt dt_Term_partThatDecides_0 1 rfl) g_Term_33_9 ho rfl ?_
    rw [hk]
    refine ev_look (tgt := 82) (off := 78) (ev_dt dt_Term_partThatDecides_0 2 rfl) (by decide +kernel) (by decide +kernel) (by decide) ?_
    refine ev_aload_0 (ev_dt dt_Term_partThatDecides_0 29 rfl) ?_
    refine ev_get (ev_dt dt_Term_partThatDecides_0 30 rfl) g_Term_19_9 ho rfl ?_
    have hx : nx N U V i = nL N i := by unfold nx; rw [hk, if_neg (by decide), if_neg (by decide)]
    rw [hx] at kk
    exact ev_areturn (ev_dt dt_Term_partThatDecides_0 31 rfl) rfl kk
/-- instanceof Term, at an order -/
theorem ev_ord {M : ev_M} {pc pc' : Nat} {ls : List (Option Value)} {st : List Value} {N : nod} {ed : Nat → Nat → Int32} {zs : Nat → Nat} {cs : Nat → Int32} {ad : Nat → Nat} {i : Nat} (hM : M.1.cls = "PreferTable") (hd : ev_d M pc (.instanceof 142) 3 pc') (hE : ev_nok E) (hk : nK N i < 6) (hN : NdAt E N ed zs cs ad i h) (kk : Ev E M d pc' ls (.int 0 :: st) h sz k n Q) : Ev E M d pc ls (.ref (ad i) :: st) h sz k n Q := by
  have hl : Cond.classLink M.1.cls 142 "PreferTable$Term" ∈ lw_tbl := by rw [hM]; exact wd_590
  rcases hN with ⟨-, hc, ho⟩ | ⟨-, hc, ho, -⟩ | ⟨-, hc, ho, -⟩ | ⟨h6, -⟩
  · exact ev_isnt hd hl rfl hE (by decide) ho kk
  · exact ev_isnt hd hl rfl hE (by decide) ho kk
  · exact ev_isnt hd hl rfl hE (by decide) ho kk
  · omega
/-- what w asks of the way -/
def wR (q : Int32) (r : Nat × Nat) : Int32 := if q = 0 then nI r.1 else if q = nI 1 then nI r.2 else -1
theorem t_walk {N : nod} {ed : Nat → Nat → Int32} {zs : Nat → Nat} {cs : Nat → Int32} {ad : Nat → Nat} {i : Nat} {c u v : Nat} {q : Int32} {U V : Nat → Int32} (hE : ev_nok E) (hc : c ≤ 24) (hi : i < c) (hdd : 30 ≤ d) (hN : ∀ j, j < c → NdAt E N ed zs cs ad j h) (hu : h u = some (iA E 4 U)) (hv : h v = some (iA E 4 V)) (kk : Q (.returned (some (.int (wR q (wk N 23 U V i))))) h sz k n) : Ev E m_PT_walkToDecider (d + 2) 0 [some (.ref (ad i)), some (.ref u), some (.ref v), some (.int q), none, none, none, none, none, none] [] h sz k n Q := by
  have fin : ∀ (i u v t : Nat), i < c → Q (.returned (some (.int (wR q (i, t))))) h sz k n → Ev E m_PT_walkToDecider (d + 2) 73 [none, none, none, some (.int q), some (.ref (ad i)), some (.ref u), some (.ref v), some (.int (nI t)), none, none] [] h sz k n Q := by
    intro i u v t hi kE
    refine ev_iload_3 (ev_dt dt_PT_walkToDecider_0 34 rfl) ?_
    refine ev_if_ne (tgt := 83) (ev_dt dt_PT_walkToDecider_0 35 rfl) (by decide) (fun h1 => ?_) (fun h1 => ?_)
    · refine ev_iload_3 (ev_dt dt_PT_walkToDecider_0 39 rfl) ?_
      refine ev_ic1 (ev_dt dt_PT_walkToDecider_0 40 rfl) ?_
      refine ev_icmp_ne (tgt := 93) (ev_dt dt_PT_walkToDecider_0 41 rfl) (by decide) (fun h2 => ?_) (fun h2 => ?_)
      · refine ev_icm (ev_dt dt_PT_walkToDecider_0 44 rfl) ?_
        exact ev_ireturn (ev_dt dt_PT_walkToDecider_0 45 rfl) rfl rfl (by have this := kE; rw [wR, if_neg h1, if_neg h2] at this; exact this)
      · refine ev_iload_7 (ev_dt dt_PT_walkToDecider_0 42 rfl) ?_
        refine ev_goto (tgt := 94) (ev_dt dt_PT_walkToDecider_0 43 rfl) (by decide) ?_
        exact ev_ireturn (ev_dt dt_PT_walkToDecider_0 45 rfl) rfl rfl (by have this := kE; rw [wR, if_neg h1, if_pos h2] at this; exact this)
    · refine ev_aload_4 (ev_dt dt_PT_walkToDecider_0 36 rfl) ?_
      refine ev_nd_numb (ev_dt dt_PT_walkToDecider_0 37 rfl) g_PT_252_6 g_PT_252_7 g_PT_252_8 g_PT_252_9 (hN i hi) ?_
      exact ev_ireturn (ev_dt dt_PT_walkToDecider_0 38 rfl) rfl rfl (by have this := kE; rw [wR, if_pos h1] at this; exact this)
  have loop : ∀ (f i j : Nat) (U V : Nat → Int32) (u v : Nat), i ≤ f → f + j ≤ 23 → i < c → h u = some (iA E 4 U) → h v = some (iA E 4 V) → Q (.returned (some (.int (wR q ((wk N f U V i).1, j + (wk N f U V i).2))))) h sz k n → Ev E m_PT_walkToDecider (d + 2) 12 [none, none, none, some (.int q), some (.ref (ad i)), some (.ref u), some (.ref v), some (.int (nI (j + 1))), none, none] [] h sz k n Q := by
    intro f
    induction f with
    | zero =>
      intro i j U V u v hif hfj hi hu hv kE
      have hk : nK N i < 6 := by
        rcases hN i hi with ⟨a, -⟩ | ⟨a, -⟩ | ⟨a, -⟩ | ⟨-, -, a, -⟩ <;> omega
      refine ev_iload_7 (ev_dt dt_PT_walkToDecider_0 8 rfl) ?_
      refine ev_bipush (ev_dt dt_PT_walkToDecider_0 9 rfl) bi_24 ?_
      refine ev_icmp_ge (tgt := 73) (ev_dt dt_PT_walkToDecider_0 10 rfl) (by decide) (fun h1 => ?_) (fun h1 => ?_)
      · exact fin i u v (j + 1) hi (by rw [wk_o hk] at kE; exact kE)
      · refine ev_aload_4 (ev_dt dt_PT_walkToDecider_0 11 rfl) ?_
        refine ev_ord rfl (ev_dt dt_PT_walkToDecider_0 12 rfl) hE hk (hN i hi) ?_
        refine ev_if_eqT (tgt := 73) (ev_dt dt_PT_walkToDecider_0 13 rfl) (by decide) rfl ?_
        exact fin i u v (j + 1) hi (by rw [wk_o hk] at kE; exact kE)
    | succ f ih =>
      intro i j U V u v hif hfj hi hu hv kE
      by_cases hk : nK N i < 6
      · refine ev_iload_7 (ev_dt dt_PT_walkToDecider_0 8 rfl) ?_
        refine ev_bipush (ev_dt dt_PT_walkToDecider_0 9 rfl) bi_24 ?_
        refine ev_icmp_ge (tgt := 73) (ev_dt dt_PT_walkToDecider_0 10 rfl) (by decide) (fun h1 => ?_) (fun h1 => ?_)
        · exact fin i u v (j + 1) hi (by rw [wk_o hk] at kE; exact kE)
        · refine ev_aload_4 (ev_dt dt_PT_walkToDecider_0 11 rfl) ?_
          refine ev_ord rfl (ev_dt dt_PT_walkToDecider_0 12 rfl) hE hk (hN i hi) ?_
          refine ev_if_eqT (tgt := 73) (ev_dt dt_PT_walkToDecider_0 13 rfl) (by decide) rfl ?_
          exact fin i u v (j + 1) hi (by rw [wk_o hk] at kE; exact kE)
      · obtain ⟨h6, h9, hl, hq, ho⟩ : 6 ≤ nK N i ∧ nK N i ≤ 9 ∧ nL N i < i ∧ nQ N i < i ∧ h (ad i) = some (oB 9 [.ref (ad (nL N i)), .ref (ad (nQ N i)), .int (nI (nK N i)), .int (nI i), .int (nI (zs i)), .int (cs i)]) := by
          rcases hN i hi with ⟨a, -⟩ | ⟨a, -⟩ | ⟨a, -⟩ | a
          · omega
          · omega
          · omega
          · exact a
        have hxl := nx_lt (U := U) (V := V) hl hq
        refine ev_iload_7 (ev_dt dt_PT_walkToDecider_0 8 rfl) ?_
        refine ev_bipush (ev_dt dt_PT_walkToDecider_0 9 rfl) bi_24 ?_
        refine ev_icmp_geF (tgt := 73) (ev_dt dt_PT_walkToDecider_0 10 rfl) (by decide) (nI_ge (by omega) (by omega)) ?_
        refine ev_aload_4 (ev_dt dt_PT_walkToDecider_0 11 rfl) ?_
        refine ev_instY (ev_dt dt_PT_walkToDecider_0 12 rfl) wd_590 rfl (Or.inl rfl) ho ?_
        refine ev_if_eqF (tgt := 73) (ev_dt dt_PT_walkToDecider_0 13 rfl) (by decide) (by decide) ?_
        refine ev_aload_4 (ev_dt dt_PT_walkToDecider_0 14 rfl) ?_
        refine ev_cast (ev_dt dt_PT_walkToDecider_0 15 rfl) wd_590 rfl (Or.inl rfl) ho ?_
        refine ev_astore_8 (ev_dt dt_PT_walkToDecider_0 16 rfl) (by decide) rfl ?_
        refine ev_aload_8 (ev_dt dt_PT_walkToDecider_0 17 rfl) ?_
        refine ev_aload_5 (ev_dt dt_PT_walkToDecider_0 18 rfl) ?_
        refine ev_aload_6 (ev_dt dt_PT_walkToDecider_0 19 rfl) ?_
        refine ev_callV (ev_dt dt_PT_walkToDecider_0 20 rfl) v_PT_267_9 ho [.ref u, .ref v] rfl np_Term_partThatDecides rfl (ev_lk_of (j := 0) rfl rfl) (t_partThatDecides (d := d) (U := U) (V := V) hi (by omega) h6 h9 hl hq ho hN hu hv (ev_r1 ?_))
        refine ev_astore_4 (ev_dt dt_PT_walkToDecider_0 21 rfl) (by decide) rfl ?_
        refine ev_aload_8 (ev_dt dt_PT_walkToDecider_0 22 rfl) ?_
        refine ev_get (ev_dt dt_PT_walkToDecider_0 23 rfl) g_PT_271_9 ho rfl ?_
        refine ev_bipush (ev_dt dt_PT_walkToDecider_0 24 rfl) bi_9 ?_
        refine ev_icmp_ne (tgt := 67) (ev_dt dt_PT_walkToDecider_0 25 rfl) (by decide) (fun h1 => ?_) (fun h1 => ?_)
        · have h9' : ¬ nK N i = 9 := fun e => h1 (by rw [e])
          refine ev_inc1_7 (ev_dt dt_PT_walkToDecider_0 32 rfl) (by decide) rfl ?_
          refine ev_goto (tgt := 12) (ev_dt dt_PT_walkToDecider_0 33 rfl) (by decide) ?_
          rw [wk_t hk, if_neg h9', if_neg h9'] at kE
          refine ev_fg_8 ?_
          exact ih (nx N U V i) (j + 1) U V u v (by omega) (by omega) (by omega) hu hv (by rw [show j + 1 + (wk N f U V (nx N U V i)).2 = j + ((wk N f U V (nx N U V i)).2 + 1) by omega]; exact kE)
        · have h9' : nK N i = 9 := (nI_eq (by omega) (by omega)).mp h1
          refine ev_aload_5 (ev_dt dt_PT_walkToDecider_0 26 rfl) ?_
          refine ev_astore_9 (ev_dt dt_PT_walkToDecider_0 27 rfl) (by decide) rfl ?_
          refine ev_aload_6 (ev_dt dt_PT_walkToDecider_0 28 rfl) ?_
          refine ev_astore_5 (ev_dt dt_PT_walkToDecider_0 29 rfl) (by decide) rfl ?_
          refine ev_aload_9 (ev_dt dt_PT_walkToDecider_0 30 rfl) ?_
          refine ev_astore_6 (ev_dt dt_PT_walkToDecider_0 31 rfl) (by decide) rfl ?_
          refine ev_inc1_7 (ev_dt dt_PT_walkToDecider_0 32 rfl) (by decide) rfl ?_
          refine ev_goto (tgt := 12) (ev_dt dt_PT_walkToDecider_0 33 rfl) (by decide) ?_
          rw [wk_t hk, if_pos h9', if_pos h9'] at kE
          refine ev_fg_8 (ev_fg_9 ?_)
          exact ih (nx N U V i) (j + 1) V U v u (by omega) (by omega) (by omega) hv hu (by rw [show j + 1 + (wk N f V U (nx N U V i)).2 = j + ((wk N f V U (nx N U V i)).2 + 1) by omega]; exact kE)
  refine ev_aload_0 (ev_dt dt_PT_walkToDecider_0 0 rfl) ?_
  refine ev_astore_4 (ev_dt dt_PT_walkToDecider_0 1 rfl) (by decide) rfl ?_
  refine ev_aload_1 (ev_dt dt_PT_walkToDecider_0 2 rfl) ?_
  refine ev_astore_5 (ev_dt dt_PT_walkToDecider_0 3 rfl) (by decide) rfl ?_
  refine ev_aload_2 (ev_dt dt_PT_walkToDecider_0 4 rfl) ?_
  refine ev_astore_6 (ev_dt dt_PT_walkToDecider_0 5 rfl) (by decide) rfl ?_
  refine ev_ic1 (ev_dt dt_PT_walkToDecider_0 6 rfl) ?_
  refine ev_istore_7 (ev_dt dt_PT_walkToDecider_0 7 rfl) (by decide) rfl ?_
  refine ev_fg_0 (ev_fg_1 (ev_fg_2 ?_))
  exact loop 23 i 0 U V u v (by omega) (by omega) hi hu hv (by rw [Nat.zero_add]; exact kk)
end C11
end
section
/-! new int[N][K]: the outer array at the heap's end, the inner ones behind it in a row. -/
theorem mn_ov {u U : State} {A B : Array Value} (hvm : u.vm.Alike U.vm) (h : (Cond.arrayOver (.array .int)).before A u = true) : (Cond.arrayOver (.array .int)).before B U = true := by
  simp only [Cond.before, Cond.holds, Cond.value, beq_iff_eq, Option.bind_eq_some_iff, Option.map_eq_some_iff] at h ⊢
  obtain ⟨comp, h1, c, h2, k, h3, h4⟩ := h
  obtain ⟨k', hk', he⟩ := hvm.2.2 _ _ h3
  refine ⟨comp, by rw [hvm.findClass]; exact h1, c, ?_, k', hk', ?_⟩
  · refine Eq.trans ?_ h2
    refine (va_idx_bare U.vm comp).symm.trans (Eq.trans ?_ (va_idx_bare u.vm comp))
    first | rw [hvm.bare_eq] | rw [← hvm.bare_eq]
  · have hk : k'.kind = k.kind := by rw [he]
    rw [hk, hvm.findClass]
    exact h4
theorem mn_gd : ev_gd (.arrayOver (.array .int)) := fun _ _ _ _ hW h1 => mn_ov hW.alike h1
theorem mn_out (c : ClassId) (N a : Nat) : ∀ i : Nat, Jvm.Free.Multi.outerC c N a i = arrV c N (fun j => va_rf (if j < i then some (a + 1 + j) else none))
  | 0 => (arrV_new c N Value.null).trans (congrArg (arrV c N) (funext fun j => by simp [va_rf]))
  | i + 1 => by
    have ih := mn_out c N a i
    simp only [Jvm.Free.Multi.outerC]
    rw [ih, arrV_store]
    refine congrArg (arrV c N) (funext fun j => ?_)
    by_cases h1 : j = i
    · subst h1; simp [updV, va_rf]
    · have h2 : (j < i + 1) = (j < i) := propext ⟨fun q => by omega, fun q => by omega⟩
      simp [updV, h1, h2]
theorem ev_R_news {E : ev_E} {h : ev_h} {sz N : Nat} {H H' : Heap} {locs : List Loc} {x y : va_E} (hR : ev_R E h sz H locs) (hx : va_at E.2.1 ev_cl (sz, x) H') (hy : ∀ j, j < N → va_at E.2.1 ev_cl (sz + 1 + j, y) H') (hz : H'.size = sz + 1 + N) (ho : ∀ q, q < sz → H'[q]? = H[q]?) : ev_R E (ev_upr (ev_up h sz x) (sz + 1) N y) (sz + 1 + N) H' locs := by
  obtain ⟨r1, r2, r3, r4, r5, r6⟩ := hR
  have cs : ∀ q z, ev_upr (ev_up h sz x) (sz + 1) N y q = some z → (∃ j, j < N ∧ q = sz + 1 + j ∧ z = y) ∨ (q = sz ∧ z = x) ∨ (q ≠ sz ∧ h q = some z) := by
    intro q z hq
    unfold ev_upr at hq
    by_cases hc : sz + 1 ≤ q ∧ q < sz + 1 + N
    · rw [if_pos hc] at hq
      cases hq
      exact Or.inl ⟨q - (sz + 1), by omega, by omega, rfl⟩
    · rw [if_neg hc] at hq
      by_cases hqa : q = sz
      · subst hqa
        rw [ev_up_s] at hq
        cases hq
        exact Or.inr (Or.inl ⟨rfl, rfl⟩)
      · rw [ev_up_n hqa] at hq
        exact Or.inr (Or.inr ⟨hqa, hq⟩)
  refine ⟨fun q z hq => ?_, hz, by omega, fun q z hq => ?_, fun q hq => ?_, r6⟩
  · rcases cs q z hq with ⟨j, hj, rfl, rfl⟩ | ⟨rfl, rfl⟩ | ⟨hne, hq⟩
    · exact hy j hj
    · exact hx
    · have hl : q < H.size := (r1 q z hq).lt
      exact (r1 q z hq).kept (ho q (by rw [← r2]; exact hl))
  · rcases cs q z hq with ⟨j, hj, rfl, rfl⟩ | ⟨rfl, rfl⟩ | ⟨hne, hq⟩
    · omega
    · omega
    · exact r4 q z hq
  · rw [ho q (by omega)]
    exact r5 q hq
section MNA
variable {E : ev_E} {M : ev_M} {d pc pc' : Nat} {ls : List (Option Value)} {st : List Value} {h : ev_h} {sz k n : Nat} {Q : ev_Q}
theorem ev_mna {index N K : Nat} (hd : ev_d M pc (.multianewarray index 2) 4 pc') (hlk : Cond.classLink M.1.cls index "[[I" ∈ lw_tbl) (hov : Cond.arrayOver (.array .int) ∈ lw_tbl) (harr : Cond.arrayClass .int ∈ lw_tbl) (hN : N ≤ 65536) (hK : K ≤ 65536)
    (kk : Ev E M d pc' ls (.ref sz :: st) (ev_upr (ev_up h sz (rA E 5 N (fun i => if i < N then some (sz + 1 + i) else none))) (sz + 1) N (iA E K (fun _ => nI 0))) (sz + 1 + N) k n Q) : Ev E M d pc ls (.int (nI K) :: .int (nI N) :: st) h sz (k + (1 + N)) (n + (N + N * K)) Q := by
  obtain ⟨hd, rfl⟩ := hd
  intro p e R s m args below meth c H locs cells slots lsr hC hR hL h1 h2 h3 h4 T hT X
  have cN : (nI N).toNatClampNeg = N := nI_clamp (by omega)
  have cK : (nI K).toNatClampNeg = K := nI_clamp (by omega)
  have hz : H.size = sz := hR.2.1
  obtain ⟨vm₁, cA, comp, -, fA, fC, -, -, X', step⟩ := X.multianewarray2F hC.ex hC.ow (ty := .int) (hC.w hlk (ev_gdT rfl) args) (hC.w hov mn_gd args) (hC.w harr ev_gdA args) (g := F0 m pc lsr (.int (nI K) :: .int (nI N) :: st)) rfl (by rw [hC.cd]; exact hd) rfl (nI_pos (by omega)) (nI_pos (by omega)) (by rw [cN]; omega) (by rw [cK]; show K * 4 ≤ _; omega) (by rw [cK]; omega) rfl rfl (by rw [cN]; omega) (by rw [cN, cK]; omega)
  rw [cN, cK] at X' step
  have e0 : E.2.2.1 0 = comp := Option.some.inj ((show s.vm.findClass "[I" = some (E.2.2.1 0) from (hC.K.2 0 _ rfl).2).symm.trans fC)
  have e5 : E.2.2.1 5 = cA := Option.some.inj ((show s.vm.findClass "[[I" = some (E.2.2.1 5) from (hC.K.2 5 _ rfl).2).symm.trans fA)
  generalize hF : Jvm.Free.Multi.fill (T.setVm vm₁) cA comp N K (defaultValue .int) N = F at X' step
  have hTh : (T.setVm vm₁).heap = H := hT
  obtain ⟨f1, f2, -, -⟩ := Jvm.Free.Multi.fill_facts (T.setVm vm₁) cA comp N K (defaultValue .int) N
  rw [hF, hTh, hz] at f1 f2
  have hold : ∀ x : Nat, x < sz → F.heap[x]? = H[x]? := fun x hx => by
    have := Jvm.Free.Multi.fill_old (T.setVm vm₁) cA comp N K (defaultValue .int) (a := x) (by rw [hTh, hz]; exact hx) N
    rw [hF, hTh] at this
    exact this
  have hin : ∀ j : Nat, j < N → F.heap[sz + 1 + j]? = some (Jvm.Free.Multi.innerC comp K (defaultValue .int)) := fun j hj => by
    have := Jvm.Free.Multi.fill_inner (T.setVm vm₁) cA comp N K (defaultValue .int) N j hj
    rw [hF, hTh, hz] at this
    exact this
  have hR' : ev_R E (ev_upr (ev_up h sz (rA E 5 N (fun i => if i < N then some (sz + 1 + i) else none))) (sz + 1) N (iA E K (fun _ => nI 0))) (sz + 1 + N) F.heap locs := by
    refine ev_R_news hR ?_ (fun j hj => ?_) f1 hold
    · show F.heap[sz]? = some (vp_cell _ _)
      rw [f2, e5, vp_cell_q, mn_out]
    · show F.heap[sz + 1 + j]? = some (vp_cell _ _)
      rw [hin j hj, e0]
      exact congrArg some (arrV_new comp K (defaultValue .int))
  obtain ⟨t, a1, b1⟩ := kk p e R s m args below meth c F.heap locs (cells + 1 + N) (slots + N + N * K) lsr hC hR' hL h1 h2 (by omega) (by omega) F rfl X'
  refine ⟨t, step t ?_, b1⟩
  have e' : T.heap.size = sz := by rw [hT, hz]
  rw [e']
  exact a1
end MNA
end
