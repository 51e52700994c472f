section
-- ===== PART A: goes FIRST, ahead of the names: the tables' words, and 'selects' of the private methods out of them =====
/-- a private method of a class that the tables say can be made, by its rows of tables_1 -/
def lw_okq (q : MethodName × Nat) : Prop := (q.1.cls ≠ "java/lang/invoke/MethodHandle" ∧ q.1.cls ≠ "java/lang/invoke/VarHandle") ∧ Cond.instantiable q.1.cls q.2 ∈ tables_1 ∧ Cond.privateMethod q.1 ∈ tables_1 ∧ Cond.instanceMethod q.1 ∈ tables_1
theorem lw_p0 : lw_okq (⟨"PreferTable", "isNode", "(I)Z"⟩, 11) := ⟨⟨by decide +kernel, by decide +kernel⟩, List.mem_of_getElem? (i := 22) (by decide +kernel), List.mem_of_getElem? (i := 202) (by decide +kernel), List.mem_of_getElem? (i := 203) (by decide +kernel)⟩
theorem lw_p1 : lw_okq (⟨"PreferTable", "isSaved", "(I)Z"⟩, 11) := ⟨⟨by decide +kernel, by decide +kernel⟩, List.mem_of_getElem? (i := 22) (by decide +kernel), List.mem_of_getElem? (i := 234) (by decide +kernel), List.mem_of_getElem? (i := 235) (by decide +kernel)⟩
theorem lw_p2 : lw_okq (⟨"PreferTable", "keepUp", "(LPreferTable$Question;)V"⟩, 11) := ⟨⟨by decide +kernel, by decide +kernel⟩, List.mem_of_getElem? (i := 22) (by decide +kernel), List.mem_of_getElem? (i := 241) (by decide +kernel), List.mem_of_getElem? (i := 242) (by decide +kernel)⟩
theorem lw_p3 : lw_okq (⟨"PreferTable$Contest", "letIn", "(LPreferTable$Rows;LPreferTable$Conditions;)V"⟩, 3) := ⟨⟨by decide +kernel, by decide +kernel⟩, List.mem_of_getElem? (i := 78) (by decide +kernel), List.mem_of_getElem? (i := 249) (by decide +kernel), List.mem_of_getElem? (i := 250) (by decide +kernel)⟩
theorem lw_p4 : lw_okq (⟨"PreferTable$Layers", "find", "(I)I"⟩, 6) := ⟨⟨by decide +kernel, by decide +kernel⟩, List.mem_of_getElem? (i := 285) (by decide +kernel), List.mem_of_getElem? (i := 283) (by decide +kernel), List.mem_of_getElem? (i := 284) (by decide +kernel)⟩
theorem lw_p5 : lw_okq (⟨"PreferTable$ValueOrder", "distance", "(I)J"⟩, 7) := ⟨⟨by decide +kernel, by decide +kernel⟩, List.mem_of_getElem? (i := 294) (by decide +kernel), List.mem_of_getElem? (i := 292) (by decide +kernel), List.mem_of_getElem? (i := 293) (by decide +kernel)⟩
theorem lw_p6 : lw_okq (⟨"PreferTable$Contest", "note", "(III)V"⟩, 3) := ⟨⟨by decide +kernel, by decide +kernel⟩, List.mem_of_getElem? (i := 78) (by decide +kernel), List.mem_of_getElem? (i := 309) (by decide +kernel), List.mem_of_getElem? (i := 310) (by decide +kernel)⟩
theorem lw_p7 : lw_okq (⟨"PreferTable", "markRead", "(LPreferTable$Question;)V"⟩, 11) := ⟨⟨by decide +kernel, by decide +kernel⟩, List.mem_of_getElem? (i := 22) (by decide +kernel), List.mem_of_getElem? (i := 329) (by decide +kernel), List.mem_of_getElem? (i := 330) (by decide +kernel)⟩
theorem lw_p8 : lw_okq (⟨"java/lang/Throwable", "fillInStackTrace", "(I)Ljava/lang/Throwable;"⟩, 6) := ⟨⟨by decide +kernel, by decide +kernel⟩, List.mem_of_getElem? (i := 388) (by decide +kernel), List.mem_of_getElem? (i := 386) (by decide +kernel), List.mem_of_getElem? (i := 387) (by decide +kernel)⟩
theorem lw_p9 : lw_okq (⟨"PreferTable", "newOrder", "(IIII)LPreferTable$Node;"⟩, 11) := ⟨⟨by decide +kernel, by decide +kernel⟩, List.mem_of_getElem? (i := 22) (by decide +kernel), List.mem_of_getElem? (i := 471) (by decide +kernel), List.mem_of_getElem? (i := 472) (by decide +kernel)⟩
theorem lw_p10 : lw_okq (⟨"PreferTable", "addNode", "(LPreferTable$Node;)I"⟩, 11) := ⟨⟨by decide +kernel, by decide +kernel⟩, List.mem_of_getElem? (i := 22) (by decide +kernel), List.mem_of_getElem? (i := 552) (by decide +kernel), List.mem_of_getElem? (i := 553) (by decide +kernel)⟩
theorem lw_p11 : lw_okq (⟨"PreferTable", "addEdge", "(LPreferTable$Graph;II)Z"⟩, 11) := ⟨⟨by decide +kernel, by decide +kernel⟩, List.mem_of_getElem? (i := 22) (by decide +kernel), List.mem_of_getElem? (i := 564) (by decide +kernel), List.mem_of_getElem? (i := 565) (by decide +kernel)⟩
theorem lw_p12 : lw_okq (⟨"PreferTable$Contest", "setLevel", "(II)V"⟩, 3) := ⟨⟨by decide +kernel, by decide +kernel⟩, List.mem_of_getElem? (i := 78) (by decide +kernel), List.mem_of_getElem? (i := 663) (by decide +kernel), List.mem_of_getElem? (i := 664) (by decide +kernel)⟩
theorem lw_p13 : lw_okq (⟨"PreferTable$Contest", "unbeatenAmong", "(I)I"⟩, 3) := ⟨⟨by decide +kernel, by decide +kernel⟩, List.mem_of_getElem? (i := 78) (by decide +kernel), List.mem_of_getElem? (i := 667) (by decide +kernel), List.mem_of_getElem? (i := 668) (by decide +kernel)⟩
theorem lw_p14 : lw_okq (⟨"PreferTable$Term", "pDecidesAlone", "()Z"⟩, 6) := ⟨⟨by decide +kernel, by decide +kernel⟩, List.mem_of_getElem? (i := 591) (by decide +kernel), List.mem_of_getElem? (i := 751) (by decide +kernel), List.mem_of_getElem? (i := 752) (by decide +kernel)⟩
theorem lw_p15 : lw_okq (⟨"PreferTableModel", "present", "()I"⟩, 34) := ⟨⟨by decide +kernel, by decide +kernel⟩, List.mem_of_getElem? (i := 767) (by decide +kernel), List.mem_of_getElem? (i := 885) (by decide +kernel), List.mem_of_getElem? (i := 886) (by decide +kernel)⟩
def lw_privs_1 : List (MethodName × Nat) := [(⟨"PreferTable", "isNode", "(I)Z"⟩, 11), (⟨"PreferTable", "isSaved", "(I)Z"⟩, 11), (⟨"PreferTable", "keepUp", "(LPreferTable$Question;)V"⟩, 11), (⟨"PreferTable$Contest", "letIn", "(LPreferTable$Rows;LPreferTable$Conditions;)V"⟩, 3), (⟨"PreferTable$Layers", "find", "(I)I"⟩, 6), (⟨"PreferTable$ValueOrder", "distance", "(I)J"⟩, 7), (⟨"PreferTable$Contest", "note", "(III)V"⟩, 3), (⟨"PreferTable", "markRead", "(LPreferTable$Question;)V"⟩, 11), (⟨"java/lang/Throwable", "fillInStackTrace", "(I)Ljava/lang/Throwable;"⟩, 6), (⟨"PreferTable", "newOrder", "(IIII)LPreferTable$Node;"⟩, 11), (⟨"PreferTable", "addNode", "(LPreferTable$Node;)I"⟩, 11), (⟨"PreferTable", "addEdge", "(LPreferTable$Graph;II)Z"⟩, 11), (⟨"PreferTable$Contest", "setLevel", "(II)V"⟩, 3), (⟨"PreferTable$Contest", "unbeatenAmong", "(I)I"⟩, 3), (⟨"PreferTable$Term", "pDecidesAlone", "()Z"⟩, 6), (⟨"PreferTableModel", "present", "()I"⟩, 34)]
theorem lw_r1 : ∀ q ∈ lw_privs_1, lw_okq q := List.forall_mem_cons.mpr ⟨lw_p0, List.forall_mem_cons.mpr ⟨lw_p1, List.forall_mem_cons.mpr ⟨lw_p2, List.forall_mem_cons.mpr ⟨lw_p3, List.forall_mem_cons.mpr ⟨lw_p4, List.forall_mem_cons.mpr ⟨lw_p5, List.forall_mem_cons.mpr ⟨lw_p6, List.forall_mem_cons.mpr ⟨lw_p7, List.forall_mem_cons.mpr ⟨lw_p8, List.forall_mem_cons.mpr ⟨lw_p9, List.forall_mem_cons.mpr ⟨lw_p10, List.forall_mem_cons.mpr ⟨lw_p11, List.forall_mem_cons.mpr ⟨lw_p12, List.forall_mem_cons.mpr ⟨lw_p13, List.forall_mem_cons.mpr ⟨lw_p14, List.forall_mem_cons.mpr ⟨lw_p15, fun _ h => absurd h List.not_mem_nil⟩⟩⟩⟩⟩⟩⟩⟩⟩⟩⟩⟩⟩⟩⟩⟩
theorem lw_p16 : lw_okq (⟨"PreferTableModel", "isRow", "(I)Z"⟩, 34) := ⟨⟨by decide +kernel, by decide +kernel⟩, List.mem_of_getElem? (i := 767) (by decide +kernel), List.mem_of_getElem? (i := 893) (by decide +kernel), List.mem_of_getElem? (i := 894) (by decide +kernel)⟩
theorem lw_p17 : lw_okq (⟨"PreferTableModel", "isNode", "(I)Z"⟩, 34) := ⟨⟨by decide +kernel, by decide +kernel⟩, List.mem_of_getElem? (i := 767) (by decide +kernel), List.mem_of_getElem? (i := 916) (by decide +kernel), List.mem_of_getElem? (i := 917) (by decide +kernel)⟩
theorem lw_p18 : lw_okq (⟨"PreferTableModel", "reached", "(II)I"⟩, 34) := ⟨⟨by decide +kernel, by decide +kernel⟩, List.mem_of_getElem? (i := 767) (by decide +kernel), List.mem_of_getElem? (i := 927) (by decide +kernel), List.mem_of_getElem? (i := 928) (by decide +kernel)⟩
theorem lw_p19 : lw_okq (⟨"PreferTableModel", "say", "(III)I"⟩, 34) := ⟨⟨by decide +kernel, by decide +kernel⟩, List.mem_of_getElem? (i := 767) (by decide +kernel), List.mem_of_getElem? (i := 939) (by decide +kernel), List.mem_of_getElem? (i := 940) (by decide +kernel)⟩
theorem lw_p20 : lw_okq (⟨"PreferTableModel", "ordered", "(III)I"⟩, 34) := ⟨⟨by decide +kernel, by decide +kernel⟩, List.mem_of_getElem? (i := 767) (by decide +kernel), List.mem_of_getElem? (i := 943) (by decide +kernel), List.mem_of_getElem? (i := 944) (by decide +kernel)⟩
theorem lw_p21 : lw_okq (⟨"PreferTableModel", "depth", "(II)J"⟩, 34) := ⟨⟨by decide +kernel, by decide +kernel⟩, List.mem_of_getElem? (i := 767) (by decide +kernel), List.mem_of_getElem? (i := 950) (by decide +kernel), List.mem_of_getElem? (i := 951) (by decide +kernel)⟩
theorem lw_p22 : lw_okq (⟨"PreferTableModel", "graph", "(III)I"⟩, 34) := ⟨⟨by decide +kernel, by decide +kernel⟩, List.mem_of_getElem? (i := 767) (by decide +kernel), List.mem_of_getElem? (i := 955) (by decide +kernel), List.mem_of_getElem? (i := 956) (by decide +kernel)⟩
theorem lw_p23 : lw_okq (⟨"PreferTableModel", "distance", "(II)J"⟩, 34) := ⟨⟨by decide +kernel, by decide +kernel⟩, List.mem_of_getElem? (i := 767) (by decide +kernel), List.mem_of_getElem? (i := 959) (by decide +kernel), List.mem_of_getElem? (i := 960) (by decide +kernel)⟩
theorem lw_p24 : lw_okq (⟨"PreferTableModel", "joined", "(III)I"⟩, 34) := ⟨⟨by decide +kernel, by decide +kernel⟩, List.mem_of_getElem? (i := 767) (by decide +kernel), List.mem_of_getElem? (i := 963) (by decide +kernel), List.mem_of_getElem? (i := 964) (by decide +kernel)⟩
theorem lw_p25 : lw_okq (⟨"PreferTableModel", "mark", "(III)I"⟩, 34) := ⟨⟨by decide +kernel, by decide +kernel⟩, List.mem_of_getElem? (i := 767) (by decide +kernel), List.mem_of_getElem? (i := 982) (by decide +kernel), List.mem_of_getElem? (i := 983) (by decide +kernel)⟩
theorem lw_p26 : lw_okq (⟨"PreferTableModel", "passes", "(II)Z"⟩, 34) := ⟨⟨by decide +kernel, by decide +kernel⟩, List.mem_of_getElem? (i := 767) (by decide +kernel), List.mem_of_getElem? (i := 986) (by decide +kernel), List.mem_of_getElem? (i := 987) (by decide +kernel)⟩
theorem lw_p27 : lw_okq (⟨"PreferTableModel", "answerBest", "()I"⟩, 34) := ⟨⟨by decide +kernel, by decide +kernel⟩, List.mem_of_getElem? (i := 767) (by decide +kernel), List.mem_of_getElem? (i := 993) (by decide +kernel), List.mem_of_getElem? (i := 994) (by decide +kernel)⟩
theorem lw_p28 : lw_okq (⟨"PreferTableModel", "weigh", "(I)V"⟩, 34) := ⟨⟨by decide +kernel, by decide +kernel⟩, List.mem_of_getElem? (i := 767) (by decide +kernel), List.mem_of_getElem? (i := 1005) (by decide +kernel), List.mem_of_getElem? (i := 1006) (by decide +kernel)⟩
theorem lw_p29 : lw_okq (⟨"PreferTableModel", "readNow", "(I)I"⟩, 34) := ⟨⟨by decide +kernel, by decide +kernel⟩, List.mem_of_getElem? (i := 767) (by decide +kernel), List.mem_of_getElem? (i := 1025) (by decide +kernel), List.mem_of_getElem? (i := 1026) (by decide +kernel)⟩
theorem lw_p30 : lw_okq (⟨"PreferTableModel", "reducedOrder", "(I)I"⟩, 34) := ⟨⟨by decide +kernel, by decide +kernel⟩, List.mem_of_getElem? (i := 767) (by decide +kernel), List.mem_of_getElem? (i := 1041) (by decide +kernel), List.mem_of_getElem? (i := 1042) (by decide +kernel)⟩
theorem lw_p31 : lw_okq (⟨"PreferTableModel", "place", "(IIII)I"⟩, 34) := ⟨⟨by decide +kernel, by decide +kernel⟩, List.mem_of_getElem? (i := 767) (by decide +kernel), List.mem_of_getElem? (i := 1045) (by decide +kernel), List.mem_of_getElem? (i := 1046) (by decide +kernel)⟩
def lw_privs_2 : List (MethodName × Nat) := [(⟨"PreferTableModel", "isRow", "(I)Z"⟩, 34), (⟨"PreferTableModel", "isNode", "(I)Z"⟩, 34), (⟨"PreferTableModel", "reached", "(II)I"⟩, 34), (⟨"PreferTableModel", "say", "(III)I"⟩, 34), (⟨"PreferTableModel", "ordered", "(III)I"⟩, 34), (⟨"PreferTableModel", "depth", "(II)J"⟩, 34), (⟨"PreferTableModel", "graph", "(III)I"⟩, 34), (⟨"PreferTableModel", "distance", "(II)J"⟩, 34), (⟨"PreferTableModel", "joined", "(III)I"⟩, 34), (⟨"PreferTableModel", "mark", "(III)I"⟩, 34), (⟨"PreferTableModel", "passes", "(II)Z"⟩, 34), (⟨"PreferTableModel", "answerBest", "()I"⟩, 34), (⟨"PreferTableModel", "weigh", "(I)V"⟩, 34), (⟨"PreferTableModel", "readNow", "(I)I"⟩, 34), (⟨"PreferTableModel", "reducedOrder", "(I)I"⟩, 34), (⟨"PreferTableModel", "place", "(IIII)I"⟩, 34)]
theorem lw_r2 : ∀ q ∈ lw_privs_2, lw_okq q := List.forall_mem_cons.mpr ⟨lw_p16, List.forall_mem_cons.mpr ⟨lw_p17, List.forall_mem_cons.mpr ⟨lw_p18, List.forall_mem_cons.mpr ⟨lw_p19, List.forall_mem_cons.mpr ⟨lw_p20, List.forall_mem_cons.mpr ⟨lw_p21, List.forall_mem_cons.mpr ⟨lw_p22, List.forall_mem_cons.mpr ⟨lw_p23, List.forall_mem_cons.mpr ⟨lw_p24, List.forall_mem_cons.mpr ⟨lw_p25, List.forall_mem_cons.mpr ⟨lw_p26, List.forall_mem_cons.mpr ⟨lw_p27, List.forall_mem_cons.mpr ⟨lw_p28, List.forall_mem_cons.mpr ⟨lw_p29, List.forall_mem_cons.mpr ⟨lw_p30, List.forall_mem_cons.mpr ⟨lw_p31, fun _ h => absurd h List.not_mem_nil⟩⟩⟩⟩⟩⟩⟩⟩⟩⟩⟩⟩⟩⟩⟩⟩
theorem lw_p32 : lw_okq (⟨"PreferTableModel", "reducedTerm", "(III)I"⟩, 34) := ⟨⟨by decide +kernel, by decide +kernel⟩, List.mem_of_getElem? (i := 767) (by decide +kernel), List.mem_of_getElem? (i := 1049) (by decide +kernel), List.mem_of_getElem? (i := 1050) (by decide +kernel)⟩
theorem lw_p33 : lw_okq (⟨"PreferTableModel", "dual", "(I)I"⟩, 34) := ⟨⟨by decide +kernel, by decide +kernel⟩, List.mem_of_getElem? (i := 767) (by decide +kernel), List.mem_of_getElem? (i := 1053) (by decide +kernel), List.mem_of_getElem? (i := 1054) (by decide +kernel)⟩
theorem lw_p34 : lw_okq (⟨"PreferTableModel", "write", "(I)V"⟩, 34) := ⟨⟨by decide +kernel, by decide +kernel⟩, List.mem_of_getElem? (i := 767) (by decide +kernel), List.mem_of_getElem? (i := 1057) (by decide +kernel), List.mem_of_getElem? (i := 1058) (by decide +kernel)⟩
theorem lw_p35 : lw_okq (⟨"PreferTableModel", "emit", "(I)V"⟩, 34) := ⟨⟨by decide +kernel, by decide +kernel⟩, List.mem_of_getElem? (i := 767) (by decide +kernel), List.mem_of_getElem? (i := 1061) (by decide +kernel), List.mem_of_getElem? (i := 1062) (by decide +kernel)⟩
def lw_privs_3 : List (MethodName × Nat) := [(⟨"PreferTableModel", "reducedTerm", "(III)I"⟩, 34), (⟨"PreferTableModel", "dual", "(I)I"⟩, 34), (⟨"PreferTableModel", "write", "(I)V"⟩, 34), (⟨"PreferTableModel", "emit", "(I)V"⟩, 34)]
theorem lw_r3 : ∀ q ∈ lw_privs_3, lw_okq q := List.forall_mem_cons.mpr ⟨lw_p32, List.forall_mem_cons.mpr ⟨lw_p33, List.forall_mem_cons.mpr ⟨lw_p34, List.forall_mem_cons.mpr ⟨lw_p35, fun _ h => absurd h List.not_mem_nil⟩⟩⟩⟩
def lw_privs : List (MethodName × Nat) := lw_privs_1 ++ (lw_privs_2 ++ (lw_privs_3))
def lw_tbl : List Cond := k2_sels lw_privs ++ tables_1
theorem lw_privs_ok : ∀ q ∈ lw_privs, lw_okq q := by
  show ∀ q ∈ lw_privs_1 ++ (lw_privs_2 ++ (lw_privs_3)), lw_okq q
  exact List.forall_mem_append.mpr ⟨lw_r1, List.forall_mem_append.mpr ⟨lw_r2, lw_r3⟩⟩
end
section
/-! Classes, fields and array types of the claim (written by gen_lean.py out of the Statement). -/
def T_PT : u_T := fun k => match k with
  | 0 => ("PreferTable", "rows", "LPreferTable$Rows;", true)
  | 1 => ("PreferTable", "nodes", "[LPreferTable$Node;", true)
  | 2 => ("PreferTable", "nodeCount", "I", false)
  | 3 => ("PreferTable", "conditions", "LPreferTable$Conditions;", true)
  | 4 => ("PreferTable", "contest", "LPreferTable$Contest;", true)
  | 5 => ("PreferTable", "answered", "LPreferTable$RowList;", true)
  | 6 => ("PreferTable", "nobody", "LPreferTable$RowList;", true)
  | 7 => ("PreferTable", "questions", "[LPreferTable$Question;", true)
  | 8 => ("PreferTable", "alterations", "I", false)
  | 9 => ("PreferTable", "formNumbers", "[I", true)
  | 10 => ("PreferTable", "formLength", "I", false)
  | _ => ("", "", "", false)
def ty_PT : Nat → FieldType := fun k => match k with
  | 0 => (.object "PreferTable$Rows")
  | 1 => (.array (.object "PreferTable$Node"))
  | 2 => .int
  | 3 => (.object "PreferTable$Conditions")
  | 4 => (.object "PreferTable$Contest")
  | 5 => (.object "PreferTable$RowList")
  | 6 => (.object "PreferTable$RowList")
  | 7 => (.array (.object "PreferTable$Question"))
  | 8 => .int
  | 9 => (.array .int)
  | 10 => .int
  | _ => .int
def T_Rows : u_T := fun k => match k with
  | 0 => ("PreferTable$Rows", "numbers", "[I", true)
  | 1 => ("PreferTable$Rows", "values", "[[I", true)
  | 2 => ("PreferTable$Rows", "count", "I", false)
  | 3 => ("PreferTable$Rows", "made", "I", false)
  | _ => ("", "", "", false)
def ty_Rows : Nat → FieldType := fun k => match k with
  | 0 => (.array .int)
  | 1 => (.array (.array .int))
  | 2 => .int
  | 3 => .int
  | _ => .int
def T_RowList : u_T := fun k => match k with
  | 0 => ("PreferTable$RowList", "numbers", "[I", true)
  | 1 => ("PreferTable$RowList", "count", "I", false)
  | _ => ("", "", "", false)
def ty_RowList : Nat → FieldType := fun k => match k with
  | 0 => (.array .int)
  | 1 => .int
  | _ => .int
def T_Conditions : u_T := fun k => match k with
  | 0 => ("PreferTable$Conditions", "columns", "[I", true)
  | 1 => ("PreferTable$Conditions", "operations", "[I", true)
  | 2 => ("PreferTable$Conditions", "bounds", "[I", true)
  | 3 => ("PreferTable$Conditions", "count", "I", false)
  | _ => ("", "", "", false)
def ty_Conditions : Nat → FieldType := fun k => match k with
  | 0 => (.array .int)
  | 1 => (.array .int)
  | 2 => (.array .int)
  | 3 => .int
  | _ => .int
def T_Question : u_T := fun k => match k with
  | 0 => ("PreferTable$Question", "node", "LPreferTable$Node;", false)
  | 1 => ("PreferTable$Question", "conditions", "LPreferTable$Conditions;", true)
  | 2 => ("PreferTable$Question", "current", "LPreferTable$RowList;", true)
  | 3 => ("PreferTable$Question", "lastRead", "LPreferTable$RowList;", true)
  | 4 => ("PreferTable$Question", "alterationsSeen", "I", false)
  | _ => ("", "", "", false)
def ty_Question : Nat → FieldType := fun k => match k with
  | 0 => (.object "PreferTable$Node")
  | 1 => (.object "PreferTable$Conditions")
  | 2 => (.object "PreferTable$RowList")
  | 3 => (.object "PreferTable$RowList")
  | 4 => .int
  | _ => .int
def T_Contest : u_T := fun k => match k with
  | 0 => ("PreferTable$Contest", "beaters", "[I", true)
  | 1 => ("PreferTable$Contest", "levels", "[I", true)
  | 2 => ("PreferTable$Contest", "passing", "I", false)
  | _ => ("", "", "", false)
def ty_Contest : Nat → FieldType := fun k => match k with
  | 0 => (.array .int)
  | 1 => (.array .int)
  | 2 => .int
  | _ => .int
def T_ValueOrder : u_T := fun k => match k with
  | 0 => ("PreferTable$ValueOrder", "from", "I", true)
  | 1 => ("PreferTable$ValueOrder", "to", "I", true)
  | 2 => ("PreferTable$Order", "column", "I", true)
  | 3 => ("PreferTable$Node", "kind", "I", true)
  | 4 => ("PreferTable$Node", "number", "I", true)
  | 5 => ("PreferTable$Node", "size", "I", true)
  | 6 => ("PreferTable$Node", "columns", "I", true)
  | _ => ("", "", "", false)
def ty_ValueOrder : Nat → FieldType := fun k => match k with
  | 0 => .int
  | 1 => .int
  | 2 => .int
  | 3 => .int
  | 4 => .int
  | 5 => .int
  | 6 => .int
  | _ => .int
def T_Layers : u_T := fun k => match k with
  | 0 => ("PreferTable$Layers", "layerOf", "[I", true)
  | 1 => ("PreferTable$Order", "column", "I", true)
  | 2 => ("PreferTable$Node", "kind", "I", true)
  | 3 => ("PreferTable$Node", "number", "I", true)
  | 4 => ("PreferTable$Node", "size", "I", true)
  | 5 => ("PreferTable$Node", "columns", "I", true)
  | _ => ("", "", "", false)
def ty_Layers : Nat → FieldType := fun k => match k with
  | 0 => (.array .int)
  | 1 => .int
  | 2 => .int
  | 3 => .int
  | 4 => .int
  | 5 => .int
  | _ => .int
def T_Graph : u_T := fun k => match k with
  | 0 => ("PreferTable$Graph", "edges", "[I", true)
  | 1 => ("PreferTable$Graph", "reached", "[I", true)
  | 2 => ("PreferTable$Order", "column", "I", true)
  | 3 => ("PreferTable$Node", "kind", "I", true)
  | 4 => ("PreferTable$Node", "number", "I", true)
  | 5 => ("PreferTable$Node", "size", "I", true)
  | 6 => ("PreferTable$Node", "columns", "I", true)
  | _ => ("", "", "", false)
def ty_Graph : Nat → FieldType := fun k => match k with
  | 0 => (.array .int)
  | 1 => (.array .int)
  | 2 => .int
  | 3 => .int
  | 4 => .int
  | 5 => .int
  | 6 => .int
  | _ => .int
def T_Term : u_T := fun k => match k with
  | 0 => ("PreferTable$Term", "p", "LPreferTable$Node;", true)
  | 1 => ("PreferTable$Term", "q", "LPreferTable$Node;", true)
  | 2 => ("PreferTable$Node", "kind", "I", true)
  | 3 => ("PreferTable$Node", "number", "I", true)
  | 4 => ("PreferTable$Node", "size", "I", true)
  | 5 => ("PreferTable$Node", "columns", "I", true)
  | _ => ("", "", "", false)
def ty_Term : Nat → FieldType := fun k => match k with
  | 0 => (.object "PreferTable$Node")
  | 1 => (.object "PreferTable$Node")
  | 2 => .int
  | 3 => .int
  | 4 => .int
  | 5 => .int
  | _ => .int
def T_Md : u_T := fun k => match k with
  | 0 => ("PreferTableModel", "thrown", "I", false)
  | 1 => ("PreferTableModel", "rows", "I", false)
  | 2 => ("PreferTableModel", "there", "[Z", true)
  | 3 => ("PreferTableModel", "value", "[I", true)
  | 4 => ("PreferTableModel", "nodes", "I", false)
  | 5 => ("PreferTableModel", "kind", "[I", true)
  | 6 => ("PreferTableModel", "column", "[I", true)
  | 7 => ("PreferTableModel", "left", "[I", true)
  | 8 => ("PreferTableModel", "right", "[I", true)
  | 9 => ("PreferTableModel", "size", "[I", true)
  | 10 => ("PreferTableModel", "layer", "[I", true)
  | 11 => ("PreferTableModel", "edges", "[I", true)
  | 12 => ("PreferTableModel", "says", "[I", true)
  | 13 => ("PreferTableModel", "conditions", "[I", true)
  | 14 => ("PreferTableModel", "on", "[I", true)
  | 15 => ("PreferTableModel", "operation", "[I", true)
  | 16 => ("PreferTableModel", "than", "[I", true)
  | 17 => ("PreferTableModel", "isSaved", "[Z", true)
  | 18 => ("PreferTableModel", "question", "[I", true)
  | 19 => ("PreferTableModel", "seen", "[Z", true)
  | 20 => ("PreferTableModel", "best", "[Z", true)
  | 21 => ("PreferTableModel", "level", "[I", true)
  | 22 => ("PreferTableModel", "answers", "I", false)
  | 23 => ("PreferTableModel", "answer", "[I", true)
  | 24 => ("PreferTableModel", "made", "I", false)
  | 25 => ("PreferTableModel", "madeKind", "[I", true)
  | 26 => ("PreferTableModel", "madeColumn", "[I", true)
  | 27 => ("PreferTableModel", "madeA", "[I", true)
  | 28 => ("PreferTableModel", "madeB", "[I", true)
  | 29 => ("PreferTableModel", "madeOf", "[I", true)
  | 30 => ("PreferTableModel", "become", "[I", true)
  | 31 => ("PreferTableModel", "forms", "I", false)
  | 32 => ("PreferTableModel", "form", "[I", true)
  | 33 => ("PreferTableModel", "wait", "[I", true)
  | _ => ("", "", "", false)
def ty_Md : Nat → FieldType := fun k => match k with
  | 0 => .int
  | 1 => .int
  | 2 => (.array .boolean)
  | 3 => (.array .int)
  | 4 => .int
  | 5 => (.array .int)
  | 6 => (.array .int)
  | 7 => (.array .int)
  | 8 => (.array .int)
  | 9 => (.array .int)
  | 10 => (.array .int)
  | 11 => (.array .int)
  | 12 => (.array .int)
  | 13 => (.array .int)
  | 14 => (.array .int)
  | 15 => (.array .int)
  | 16 => (.array .int)
  | 17 => (.array .boolean)
  | 18 => (.array .int)
  | 19 => (.array .boolean)
  | 20 => (.array .boolean)
  | 21 => (.array .int)
  | 22 => .int
  | 23 => (.array .int)
  | 24 => .int
  | 25 => (.array .int)
  | 26 => (.array .int)
  | 27 => (.array .int)
  | 28 => (.array .int)
  | 29 => (.array .int)
  | 30 => (.array .int)
  | 31 => .int
  | 32 => (.array .int)
  | 33 => (.array .int)
  | _ => .int
def T_exc : u_T := fun _ => ("", "", "", false)
def ev_cl : List vw_C := [("PreferTable", T_PT, 11), ("PreferTable$Rows", T_Rows, 4), ("PreferTable$RowList", T_RowList, 2), ("PreferTable$Conditions", T_Conditions, 4), ("PreferTable$Question", T_Question, 5), ("PreferTable$Contest", T_Contest, 3), ("PreferTable$ValueOrder", T_ValueOrder, 7), ("PreferTable$Layers", T_Layers, 6), ("PreferTable$Graph", T_Graph, 7), ("PreferTable$Term", T_Term, 6), ("PreferTableModel", T_Md, 34), ("java/lang/IllegalStateException", T_exc, 0), ("java/lang/IllegalArgumentException", T_exc, 0), ("java/lang/IndexOutOfBoundsException", T_exc, 0)]
def ev_tys (A : Nat → ClassId) : List (ClassId × FieldType) := [(A 0, .int), (A 1, .boolean), (A 2, .long), (A 3, .object "PreferTable$Node"), (A 4, .object "PreferTable$Question"), (A 5, .array .int)]
def ev_strs : List (String × Nat × String) := [("PreferTable", 73, "no room for another row"), ("PreferTable", 100, "no such row or column"), ("PreferTable", 105, "no such order"), ("PreferTable", 108, "no room for another node"), ("PreferTable", 129, "no such node or value"), ("PreferTable", 259, "a value would be better than itself"), ("PreferTable", 137, "the node has no edges"), ("PreferTable", 139, "no such kind or node"), ("PreferTable", 147, "too many nodes, or too large a term"), ("PreferTable", 152, "no such column or operation"), ("PreferTable", 157, "no room for another condition"), ("PreferTable", 165, "no such node or row"), ("PreferTable", 171, "no such node"), ("PreferTable", 182, "no such node or column"), ("PreferTable", 188, "fewer than no rows"), ("PreferTable", 211, "no such question or node"), ("PreferTable", 237, "no such number in the form")]
def ev_stat : List Cond := [.isRef (.static Bundle.tN "UNASSIGNED_STACK" Bundle.steD), .isRef (.static Bundle.tN "SUPPRESSED_SENTINEL" Bundle.listD)]
theorem ev_memS (i : Nat) {w : Cond} (h : (k2_sels lw_privs)[i]? = some w) : w ∈ lw_tbl := List.mem_append_left _ (List.mem_of_getElem? h)
theorem ev_mem (i : Nat) {w : Cond} (h : tables_1[i]? = some w) : w ∈ lw_tbl := List.mem_append_right _ (List.mem_of_getElem? h)
end
section
/-! The judgement Ev: one method's frame over a heap that is a function. It hides the machine (program, state, frames, room, words of the tables); its rules are one an instruction. -/
/-- a word that stays true at any later state -/
def ev_gd (w : Cond) : Prop := ∀ (s U : State) (A B : Array Value), s.WarmedH U.vm → w.before A s = true → w.before B U = true
theorem ev_gdT {w : Cond} (h : (w.onTables && w.keeps) = true) : ev_gd w := fun _ _ _ _ hW h1 => word_at hW (Or.inl h) h1
theorem ev_gdA {ty : FieldType} : ev_gd (.arrayClass ty) := fun _ _ _ _ hW h1 => word_at hW (Or.inr ⟨ty, rfl⟩) h1
theorem ev_gdN {a b : String} {i : Nat} {x : MethodName} : ev_gd (.methodLinkNest a i x b) := fun _ _ _ _ hW h1 => va_Nw.use rfl (va_Nw.warmM hW (va_Nw.of rfl h1))
theorem ev_gdD {x : MethodName} : ev_gd (.declares x) := fun _ _ _ _ hW h1 => va_Nw.use rfl (va_Nw.warmD hW (va_Nw.of rfl h1))
theorem ev_gdC {a b : String} : ev_gd (.castable a b) := fun _ _ _ _ hW h1 => va_Nw.use rfl (va_Nw.warmC hW (va_Nw.of rfl h1))
theorem ev_gdL {C : String} {T : u_T} {k : Nat} : ev_gd (u_lay C T k) := by
  unfold u_lay
  split
  · exact ev_gdT rfl
  · exact ev_gdT rfl
abbrev ev_h : Type := Nat → Option va_E
/-- outcome, heap behind it, its size, cells and slots left -/
abbrev ev_Q : Type := Outcome → ev_h → Nat → Nat → Nat → Prop
/-- a method: name, bytes, number of locals, what it returns, handlers -/
abbrev ev_M : Type := MethodName × ByteArray × Nat × Option FieldType × List (Nat × Nat × Nat × Nat)
/-- launch; class ids and slots; array classes; the state and the arguments at the law's entry -/
abbrev ev_E : Type := Launch × va_G × (Nat → ClassId) × State × Array Value
abbrev ev_b (E : ev_E) : Nat := E.2.2.2.1.heap.size
/-- arrays of ints, booleans, longs, references -/
abbrev iA (E : ev_E) (N : Nat) (f : Nat → Int32) : va_E := .inl (E.2.2.1 0, N, .inl f)
abbrev zA (E : ev_E) (N : Nat) (f : Nat → Int32) : va_E := .inl (E.2.2.1 1, N, .inl f)
abbrev lA (E : ev_E) (N : Nat) (f : Nat → Int64) : va_E := .inl (E.2.2.1 2, N, .inr (.inl f))
abbrev rA (E : ev_E) (t N : Nat) (f : Nat → Option Nat) : va_E := .inl (E.2.2.1 t, N, .inr (.inr (.inr (.inr f))))
/-- an object of the class number ci -/
abbrev oB (ci : Nat) (fs : List Value) : va_E := .inr (ci, fs)
/-- cells a .. a + N - 1 -/
def ev_upr (h : ev_h) (a N : Nat) (x : va_E) : ev_h := fun q => if a ≤ q ∧ q < a + N then some x else h q
def ev_up (h : ev_h) (a : Nat) (x : va_E) : ev_h := fun q => if q = a then some x else h q
theorem ev_up_s {h : ev_h} {a : Nat} {x : va_E} : ev_up h a x a = some x := if_pos rfl
theorem ev_up_n {h : ev_h} {a q : Nat} {x : va_E} (hq : q ≠ a) : ev_up h a x q = h q := if_neg hq
theorem ev_up_up {h : ev_h} {a : Nat} {x y : va_E} : ev_up (ev_up h a x) a y = ev_up h a y := by
  funext q
  by_cases hq : q = a
  · simp [ev_up, hq]
  · simp [ev_up, hq]
theorem ev_up_comm {h : ev_h} {a b : Nat} {x y : va_E} (hab : a ≠ b) : ev_up (ev_up h a x) b y = ev_up (ev_up h b y) a x := by
  funext q
  by_cases h1 : q = a
  · subst h1
    simp [ev_up, hab]
  · simp [ev_up, h1]
theorem ev_up_self {h : ev_h} {a : Nat} {x : va_E} (hx : h a = some x) : ev_up h a x = h := by
  funext q
  by_cases hq : q = a
  · subst hq
    simp [ev_up, hx]
  · simp [ev_up, hq]
def ev_H (D : va_G) (h : ev_h) (H : Heap) : Prop := ∀ (a : Nat) (x : va_E), h a = some x → va_at D ev_cl (a, x) H
def ev_R (E : ev_E) (h : ev_h) (sz : Nat) (H : Heap) (locs : List Loc) : Prop :=
  ev_H E.2.1 h H ∧ H.size = sz ∧ ev_b E ≤ sz ∧ (∀ a x, h a = some x → ev_b E ≤ a) ∧ (∀ q : Nat, q < ev_b E → H[q]? = E.2.2.2.1.heap[q]?) ∧ ∀ x ∈ locs, ev_b E ≤ x.base
/-- what holds at the law's entry: the words of the tables, classes and array classes, text constants; no stack traces -/
def ev_ok (E : ev_E) : Prop := (∀ w ∈ lw_tbl, w.before E.2.2.2.2 E.2.2.2.1 = true) ∧ va_K E.2.1 ev_cl (ev_tys E.2.2.1) E.2.2.2.1 ∧ (∀ q ∈ ev_strs, ∃ a, vk_R q.1 q.2.1 q.2.2 a E.2.2.2.1) ∧ E.1.stackTraces = false ∧ (∀ w ∈ ev_stat, w.before E.2.2.2.2 E.2.2.2.1 = true)
/-- a frame's context: its state lies behind the law's entry; its code is M's -/
def ev_C (E : ev_E) (M : ev_M) (p : Program) (s : State) (m : MethodId) (meth : Method) (c : Code) : Prop :=
  ev_ok E ∧ p.tables.exec = Jvm.exec ∧ c.code = M.2.1 ∧ c.maxLocals = M.2.2.1 ∧ meth.sig.returnType = M.2.2.2.1 ∧ meth.locks = false ∧
  (c.exceptionTable.toList.map fun x => (x.startPc, x.endPc, x.handlerPc, x.catchType)) = M.2.2.2.2 ∧ s.vm.findClass M.1.cls = some m.cls ∧ meth.name = M.1.name ∧
  E.2.2.2.1.WarmedH s.vm ∧ (∀ q : Nat, q < ev_b E → s.heap[q]? = E.2.2.2.1.heap[q]?) ∧ ev_b E ≤ s.heap.size
section EVC0
variable {E : ev_E} {M : ev_M} {p : Program} {s : State} {m : MethodId} {meth : Method} {c : Code}
theorem ev_C.ok (hC : ev_C E M p s m meth c) : ev_ok E := hC.1
theorem ev_C.ex (hC : ev_C E M p s m meth c) : p.tables.exec = Jvm.exec := hC.2.1
theorem ev_C.cd (hC : ev_C E M p s m meth c) : c.code = M.2.1 := hC.2.2.1
theorem ev_C.ml (hC : ev_C E M p s m meth c) : c.maxLocals = M.2.2.1 := hC.2.2.2.1
theorem ev_C.rt (hC : ev_C E M p s m meth c) : meth.sig.returnType = M.2.2.2.1 := hC.2.2.2.2.1
theorem ev_C.lk (hC : ev_C E M p s m meth c) : meth.locks = false := hC.2.2.2.2.2.1
theorem ev_C.xt (hC : ev_C E M p s m meth c) : (c.exceptionTable.toList.map fun x => (x.startPc, x.endPc, x.handlerPc, x.catchType)) = M.2.2.2.2 := hC.2.2.2.2.2.2.1
theorem ev_C.ow (hC : ev_C E M p s m meth c) : s.vm.findClass M.1.cls = some m.cls := hC.2.2.2.2.2.2.2.1
theorem ev_C.nm (hC : ev_C E M p s m meth c) : meth.name = M.1.name := hC.2.2.2.2.2.2.2.2.1
theorem ev_C.wm (hC : ev_C E M p s m meth c) : E.2.2.2.1.WarmedH s.vm := hC.2.2.2.2.2.2.2.2.2.1
theorem ev_C.lo (hC : ev_C E M p s m meth c) : ∀ q : Nat, q < ev_b E → s.heap[q]? = E.2.2.2.1.heap[q]? := hC.2.2.2.2.2.2.2.2.2.2.1
theorem ev_C.bz (hC : ev_C E M p s m meth c) : ev_b E ≤ s.heap.size := hC.2.2.2.2.2.2.2.2.2.2.2
theorem ev_C.w (hC : ev_C E M p s m meth c) {w : Cond} (hw : w ∈ lw_tbl) (hg : ev_gd w) (args : Array Value) : w.before args s = true := hg _ _ _ _ hC.wm (hC.1.1 w hw)
theorem ev_C.nc (hC : ev_C E M p s m meth c) {a b : String} (hw : Cond.not (.castable a b) ∈ lw_tbl) : va_Nc a b s := va_Nc.moved hC.wm.alike (va_Nc.of (hC.1.1 _ hw))
theorem ev_C.K (hC : ev_C E M p s m meth c) : va_K E.2.1 ev_cl (ev_tys E.2.2.1) s := va_K.moved hC.wm.alike hC.1.2.1
end EVC0
-- locals: a list of what is known of each place
def ev_L (nL : Nat) (lsr : Array Slot) (ls : List (Option Value)) : Prop := lsr.size = nL ∧ lv_wf lsr ∧ ∀ (i : Nat) (v : Value), ls[i]? = some (some v) → lsr[i]? = some (.val v)
/-- what holds of the machine's state when the frame has ended -/
def ev_Z (E : ev_E) (s : State) (below : List Frame) (R : Room) (Q : ev_Q) (t : State) : Prop :=
  ∃ (o : Outcome) (h : ev_h) (sz k n : Nat) (L : List Loc) (cells slots : Nat), t.status = .running ∧ Ended t below o ∧ s.WarmedH t.vm ∧ s.sameButNew ({ t with vm := s.vm } : State) L cells slots ∧
    ev_R E h sz t.heap L ∧ cells + k ≤ R.cells ∧ slots + n ≤ R.slots ∧ Q o h sz k n
def Ev (E : ev_E) (M : ev_M) (d pc : Nat) (ls : List (Option Value)) (st : List Value) (h : ev_h) (sz k n : Nat) (Q : ev_Q) : Prop :=
  ∀ (p : Program) (e : Env) (R : Room) (s : State) (m : MethodId) (args : Array Value) (below : List Frame) (meth : Method) (c : Code) (H : Heap) (locs : List Loc) (cells slots : Nat) (lsr : Array Slot),
    ev_C E M p s m meth c → ev_R E h sz H locs → ev_L M.2.2.1 lsr ls → d ≤ R.frames → d * 64 ≤ R.locals → cells + k ≤ R.cells → slots + n ≤ R.slots →
    W p E.1 e R s m args below meth c H locs cells slots (ev_Z E s below R Q) (F0 m pc lsr st)
/-- an instruction's decode row, and the pc behind it -/
def ev_d (M : ev_M) (pc : Nat) (i : Instr) (len pc' : Nat) : Prop := decode M.2.1 pc = .ok (i, len) ∧ pc + len = pc'
abbrev ev_tab : Type := List (Nat × Instr × Nat × Nat)
abbrev ev_dall (M : ev_M) (t : ev_tab) : Prop := ∀ q ∈ t, decode M.2.1 q.1 = .ok (q.2.1, q.2.2.1) ∧ q.1 + q.2.2.1 = q.2.2.2
theorem ev_dt {M : ev_M} {t : ev_tab} (h : ev_dall M t) (i : Nat) {pc len pc' : Nat} {ins : Instr} (hi : t[i]? = some (pc, ins, len, pc')) : ev_d M pc ins len pc' := by
  have h1 := h (pc, ins, len, pc') (List.mem_of_getElem? hi)
  exact ⟨h1.1, h1.2⟩
section EV
variable {E : ev_E} {M : ev_M} {d pc : Nat} {ls : List (Option Value)} {st : List Value} {h : ev_h} {sz k n : Nat} {Q : ev_Q}
/-- more room than needed -/
theorem ev_wide {d' k' n' : Nat} (hd : d' ≤ d) (hk : k' ≤ k) (hn : n' ≤ n) (kk : Ev E M d' pc ls st h sz k' n' Q) : Ev E M d pc ls st h sz k n Q :=
  fun p e R s m args below meth c H locs cells slots lsr hC hR hL h1 h2 h3 h4 => kk p e R s m args below meth c H locs cells slots lsr hC hR hL (by omega) (Nat.le_trans (Nat.mul_le_mul_right 64 hd) h2) (by omega) (by omega)
/-- a stronger end -/
theorem ev_post {Q' : ev_Q} (kk : Ev E M d pc ls st h sz k n Q') (hq : ∀ o h' sz' k' n', Q' o h' sz' k' n' → Q o h' sz' k' n') : Ev E M d pc ls st h sz k n Q := by
  intro p e R s m args below meth c H locs cells slots lsr hC hR hL h1 h2 h3 h4 T hT X
  obtain ⟨t, st', o, h', sz', k', n', L, c', n2, g1, g2, g3, g4, g5, g6, g7, g8⟩ := kk p e R s m args below meth c H locs cells slots lsr hC hR hL h1 h2 h3 h4 T hT X
  exact ⟨t, st', o, h', sz', k', n', L, c', n2, g1, g2, g3, g4, g5, g6, g7, hq _ _ _ _ _ g8⟩
/-- an instruction that moves nothing but pc and stack -/
theorem ev_pure {pc' : Nat} {st' : List Value}
    (hw : ∀ {p : Program} {e : Env} {R : Room} {s : State} {m : MethodId} {args : Array Value} {below : List Frame} {meth : Method} {c : Code} {H : Heap} {locs : List Loc} {cells slots : Nat} {Z : State → Prop} {lsr : Array Slot},
      p.tables.exec = Jvm.exec → c.code = M.2.1 → ev_L M.2.2.1 lsr ls → W p E.1 e R s m args below meth c H locs cells slots Z (F0 m pc' lsr st') → W p E.1 e R s m args below meth c H locs cells slots Z (F0 m pc lsr st))
    (kk : Ev E M d pc' ls st' h sz k n Q) : Ev E M d pc ls st h sz k n Q :=
  fun p e R s m args below meth c H locs cells slots lsr hC hR hL h1 h2 h3 h4 => hw hC.ex hC.cd hL (kk p e R s m args below meth c H locs cells slots lsr hC hR hL h1 h2 h3 h4)
/-- a branch -/
theorem ev_br {P : Prop} {pt pf : Nat} {st' : List Value}
    (hw : ∀ {p : Program} {e : Env} {R : Room} {s : State} {m : MethodId} {args : Array Value} {below : List Frame} {meth : Method} {c : Code} {H : Heap} {locs : List Loc} {cells slots : Nat} {Z : State → Prop} {lsr : Array Slot},
      p.tables.exec = Jvm.exec → c.code = M.2.1 → (P → W p E.1 e R s m args below meth c H locs cells slots Z (F0 m pt lsr st')) → (¬ P → W p E.1 e R s m args below meth c H locs cells slots Z (F0 m pf lsr st')) → W p E.1 e R s m args below meth c H locs cells slots Z (F0 m pc lsr st))
    (kt : P → Ev E M d pt ls st' h sz k n Q) (kf : ¬ P → Ev E M d pf ls st' h sz k n Q) : Ev E M d pc ls st h sz k n Q :=
  fun p e R s m args below meth c H locs cells slots lsr hC hR hL h1 h2 h3 h4 => hw hC.ex hC.cd
    (fun a => kt a p e R s m args below meth c H locs cells slots lsr hC hR hL h1 h2 h3 h4) (fun a => kf a p e R s m args below meth c H locs cells slots lsr hC hR hL h1 h2 h3 h4)
end EV
-- locals: from a list of places to the kit's pairs and back
def ev_c1 : Option Value → Bool
  | none => true
  | some w => w.category == 1
def ev_prev (ls : List (Option Value)) : Nat → Option (Option Value)
  | 0 => none
  | j + 1 => ls[j]?
theorem ev_c1_of {x : Option Value} {w : Value} (h : ev_c1 x = true) (hw : some x = some (some w)) : w.category ≠ 2 := by
  cases hw
  simp only [ev_c1, beq_iff_eq] at h
  omega
def ev_prs (ls : List (Option Value)) : List (Nat × Value) := (List.range ls.length).filterMap fun j => (ls[j]?.join).map fun w => (j, w)
theorem ev_prs_mem {ls : List (Option Value)} {j : Nat} {w : Value} : (j, w) ∈ ev_prs ls ↔ ls[j]? = some (some w) := by
  simp only [ev_prs, List.mem_filterMap, List.mem_range, Option.map_eq_some_iff, Prod.mk.injEq]
  constructor
  · rintro ⟨i, hi, u, hu, rfl, rfl⟩
    rw [List.getElem?_eq_getElem hi] at hu ⊢
    simpa using hu
  · intro hj
    have hlt : j < ls.length := (List.getElem?_eq_some_iff.mp hj).1
    exact ⟨j, hlt, w, by rw [hj]; rfl, rfl, rfl⟩
theorem ev_has {nL : Nat} {lsr : Array Slot} {ls : List (Option Value)} (hL : ev_L nL lsr ls) : lv_has lsr nL (ev_prs ls) := ⟨hL.1, hL.2.1, fun q hq => hL.2.2 q.1 q.2 (ev_prs_mem.mp hq)⟩
theorem ev_has1 {nL i : Nat} {v : Value} {lsr : Array Slot} {ls : List (Option Value)} (hi : lsr[i]? = some (.val v)) (hL : ev_L nL lsr ls) : lv_has lsr nL ((i, v) :: ev_prs ls) :=
  ⟨hL.1, hL.2.1, fun q hq => by
    rcases List.mem_cons.mp hq with rfl | hq
    · exact hi
    · exact hL.2.2 q.1 q.2 (ev_prs_mem.mp hq)⟩
theorem ev_L_gen {nL i : Nat} {v : Value} {ls' : Array Slot} {ls : List (Option Value)} {lv : List (Nat × Value)} (hsub : ∀ q ∈ ev_prs ls, q ∈ lv)
    (hl : lv_has ls' nL ((i, v) :: lv.filter (fun q => !(q.1 == i) && !(q.1 + 1 == i && q.2.category == 2)))) (hp : ∀ w, ev_prev ls i = some (some w) → w.category ≠ 2) : ev_L nL ls' (ls.set i (some v)) := by
  refine ⟨hl.1, hl.2.1, fun j w hj => ?_⟩
  by_cases hji : j = i
  · subst hji
    by_cases hlt : j < ls.length
    · rw [List.getElem?_set_self hlt] at hj
      cases hj
      exact hl.2.2 (j, v) List.mem_cons_self
    · rw [List.getElem?_eq_none (by simpa using Nat.le_of_not_lt hlt)] at hj
      cases hj
  · rw [List.getElem?_set_ne (Ne.symm hji)] at hj
    refine hl.2.2 (j, w) (List.mem_cons_of_mem _ (List.mem_filter.mpr ⟨hsub _ (ev_prs_mem.mpr hj), ?_⟩))
    have h1 : ¬ (j + 1 = i ∧ w.category = 2) := by
      rintro ⟨rfl, h2⟩
      exact hp w hj h2
    simp only [Bool.and_eq_true, Bool.not_eq_true', beq_eq_false_iff_ne, Bool.and_eq_false_iff]
    refine ⟨hji, ?_⟩
    by_cases h3 : j + 1 = i
    · exact Or.inr fun h4 => h1 ⟨h3, h4⟩
    · exact Or.inl h3
theorem ev_L_gen2 {nL i : Nat} {v : Value} {ls' : Array Slot} {ls : List (Option Value)}
    (hl : lv_has ls' nL ((i, v) :: (ev_prs ls).filter (fun q => !(q.1 == i) && (!(q.1 == i + 1) && !(q.1 + 1 == i && q.2.category == 2))))) (hp : ∀ w, ev_prev ls i = some (some w) → w.category ≠ 2) : ev_L nL ls' ((ls.set i (some v)).set (i + 1) none) := by
  refine ⟨hl.1, hl.2.1, fun j w hj => ?_⟩
  by_cases hj2 : j = i + 1
  · subst hj2
    by_cases hlt : i + 1 < (ls.set i (some v)).length
    · rw [List.getElem?_set_self hlt] at hj
      cases hj
    · rw [List.getElem?_eq_none (by simpa using Nat.le_of_not_lt hlt)] at hj
      cases hj
  rw [List.getElem?_set_ne (Ne.symm hj2)] at hj
  by_cases hji : j = i
  · subst hji
    by_cases hlt : j < ls.length
    · rw [List.getElem?_set_self hlt] at hj
      cases hj
      exact hl.2.2 (j, v) List.mem_cons_self
    · rw [List.getElem?_eq_none (by simpa using Nat.le_of_not_lt hlt)] at hj
      cases hj
  · rw [List.getElem?_set_ne (Ne.symm hji)] at hj
    refine hl.2.2 (j, w) (List.mem_cons_of_mem _ (List.mem_filter.mpr ⟨ev_prs_mem.mpr hj, ?_⟩))
    have h1 : ¬ (j + 1 = i ∧ w.category = 2) := by
      rintro ⟨rfl, h2⟩
      exact hp w hj h2
    simp only [Bool.and_eq_true, Bool.not_eq_true', beq_eq_false_iff_ne, Bool.and_eq_false_iff]
    refine ⟨hji, hj2, ?_⟩
    by_cases h3 : j + 1 = i
    · exact Or.inr fun h4 => h1 ⟨h3, h4⟩
    · exact Or.inl h3
theorem ev_L_set {nL i : Nat} {v : Value} {ls' : Array Slot} {ls : List (Option Value)}
    (hl : lv_has ls' nL ((i, v) :: (ev_prs ls).filter (fun q => !(q.1 == i) && !(q.1 + 1 == i && q.2.category == 2)))) (hp : ∀ w, ev_prev ls i = some (some w) → w.category ≠ 2) : ev_L nL ls' (ls.set i (some v)) := ev_L_gen (fun _ h => h) hl hp
theorem ev_L_set1 {nL i : Nat} {u v : Value} {ls' : Array Slot} {ls : List (Option Value)}
    (hl : lv_has ls' nL ((i, v) :: ((i, u) :: ev_prs ls).filter (fun q => !(q.1 == i) && !(q.1 + 1 == i && q.2.category == 2)))) (hp : ∀ w, ev_prev ls i = some (some w) → w.category ≠ 2) : ev_L nL ls' (ls.set i (some v)) := ev_L_gen (fun _ h => List.mem_cons_of_mem _ h) hl hp
/-- less known of the locals -/
theorem ev_less {E : ev_E} {M : ev_M} {d pc : Nat} {ls ls' : List (Option Value)} {st : List Value} {h : ev_h} {sz k n : Nat} {Q : ev_Q} (hl : ∀ (i : Nat) (v : Value), ls'[i]? = some (some v) → ls[i]? = some (some v)) (kk : Ev E M d pc ls' st h sz k n Q) : Ev E M d pc ls st h sz k n Q :=
  fun p e R s m args below meth c H locs cells slots lsr hC hR hL h1 h2 h3 h4 => kk p e R s m args below meth c H locs cells slots lsr hC hR ⟨hL.1, hL.2.1, fun i v hi => hL.2.2 i v (hl i v hi)⟩ h1 h2 h3 h4
-- returns
section EVR
variable {E : ev_E} {M : ev_M} {d pc pc' : Nat} {ls : List (Option Value)} {h : ev_h} {sz k n : Nat} {Q : ev_Q}
theorem ev_ireturn {v : Int32} {ty : FieldType} (hd : ev_d M pc .ireturn 1 pc') (hr : M.2.2.2.1 = some ty) (hn : narrow ty (.int v) = .int v) (hq : Q (.returned (some (.int v))) h sz k n) : Ev E M d pc ls [.int v] h sz k n Q := by
  intro p e R s m args below meth c H locs cells slots lsr hC hR hL h1 h2 h3 h4 T hT X
  obtain ⟨hd, -⟩ := hd
  have hx := hC.ex
  have hb := hC.cd
  have hlk := hC.lk
  have hr' : meth.sig.returnType = some ty := hC.rt.trans hr
  obtain ⟨fs, hret, hrun, hended, hWm, hframe⟩ := X.leave (v := some (.int v)) (hlocks := hlk) (fun h => by rw [hr'] at h; cases h)
  have hmeth' : T.vm.method? m = some meth := X.method'
  refine ⟨T.setFrames fs, ?_, .returned (some (.int v)), h, sz, k, n, locs, cells, slots, hrun, hended, hWm, hframe, by rw [show (T.setFrames fs).heap = H from hT]; exact hR, h3, h4, hq⟩
  jvm_step X.here [X.here.top, hx, hb, hd, hmeth', hr', hn]
  (try refine ⟨rfl, ?_⟩); (try refine ⟨rfl, ?_⟩)
  first | (intro acts; rw [hret _ acts rfl rfl rfl]) | rw [hret _ _ rfl rfl rfl]
  exact Steps.refl _
theorem ev_lreturn {v : Int64} (hd : ev_d M pc .lreturn 1 pc') (hr : M.2.2.2.1 = some .long) (hq : Q (.returned (some (.long v))) h sz k n) : Ev E M d pc ls [.long v] h sz k n Q := by
  intro p e R s m args below meth c H locs cells slots lsr hC hR hL h1 h2 h3 h4 T hT X
  obtain ⟨hd, -⟩ := hd
  have hx := hC.ex
  have hb := hC.cd
  have hlk := hC.lk
  have hr' : meth.sig.returnType = some .long := hC.rt.trans hr
  obtain ⟨fs, hret, hrun, hended, hWm, hframe⟩ := X.leave (v := some (.long v)) (hlocks := hlk) (fun h => by rw [hr'] at h; cases h)
  have hmeth' : T.vm.method? m = some meth := X.method'
  refine ⟨T.setFrames fs, ?_, .returned (some (.long v)), h, sz, k, n, locs, cells, slots, hrun, hended, hWm, hframe, by rw [show (T.setFrames fs).heap = H from hT]; exact hR, h3, h4, hq⟩
  jvm_step X.here [X.here.top, hx, hb, hd, hmeth', hr', narrow]
  (try refine ⟨rfl, ?_⟩); (try refine ⟨rfl, ?_⟩)
  first | (intro acts; rw [hret _ acts rfl rfl rfl]) | rw [hret _ _ rfl rfl rfl]
  exact Steps.refl _
theorem ev_areturn {a : Nat} {cn : String} (hd : ev_d M pc .areturn 1 pc') (hr : M.2.2.2.1 = some (.object cn)) (hq : Q (.returned (some (.ref a))) h sz k n) : Ev E M d pc ls [.ref a] h sz k n Q := by
  intro p e R s m args below meth c H locs cells slots lsr hC hR hL h1 h2 h3 h4 T hT X
  obtain ⟨hd, -⟩ := hd
  have hx := hC.ex
  have hb := hC.cd
  have hlk := hC.lk
  have hr' : meth.sig.returnType = some (.object cn) := hC.rt.trans hr
  obtain ⟨fs, hret, hrun, hended, hWm, hframe⟩ := X.leave (v := some (.ref a)) (hlocks := hlk) (fun h => by rw [hr'] at h; cases h)
  have hmeth' : T.vm.method? m = some meth := X.method'
  refine ⟨T.setFrames fs, ?_, .returned (some (.ref a)), h, sz, k, n, locs, cells, slots, hrun, hended, hWm, hframe, by rw [show (T.setFrames fs).heap = H from hT]; exact hR, h3, h4, hq⟩
  jvm_step X.here [X.here.top, hx, hb, hd, hmeth', hr']
  (try refine ⟨rfl, ?_⟩); (try refine ⟨rfl, ?_⟩)
  first | (intro acts; rw [hret _ acts rfl rfl rfl]) | rw [hret _ _ rfl rfl rfl]
  exact Steps.refl _
theorem ev_return (hd : ev_d M pc .return_ 1 pc') (hr : M.2.2.2.1 = none) (hq : Q (.returned none) h sz k n) : Ev E M d pc ls [] h sz k n Q := by
  intro p e R s m args below meth c H locs cells slots lsr hC hR hL h1 h2 h3 h4 T hT X
  obtain ⟨hd, -⟩ := hd
  have hx := hC.ex
  have hb := hC.cd
  have hlk := hC.lk
  have hr' : meth.sig.returnType = none := hC.rt.trans hr
  obtain ⟨fs, hret, hrun, hended, hWm, hframe⟩ := X.leave (v := none) (hlocks := hlk) (fun _ => rfl)
  have hmeth' : T.vm.method? m = some meth := X.method'
  refine ⟨T.setFrames fs, ?_, .returned none, h, sz, k, n, locs, cells, slots, hrun, hended, hWm, hframe, by rw [show (T.setFrames fs).heap = H from hT]; exact hR, h3, h4, hq⟩
  jvm_step X.here [X.here.top, hx, hb, hd, hmeth', hr']
  (try refine ⟨rfl, ?_⟩); (try refine ⟨rfl, ?_⟩)
  first | (intro acts; rw [hret _ acts rfl rfl rfl]) | rw [hret _ _ rfl rfl rfl]
  exact Steps.refl _
end EVR
end
section
/-! Ev: one rule an instruction: loads, stores, constants, arithmetic, branches (written by gen_fam.py). -/
section EVF
variable {E : ev_E} {M : ev_M} {d pc pc' : Nat} {ls r : List (Option Value)} {st : List Value} {h : ev_h} {sz k n : Nat} {Q : ev_Q}
theorem ev_iload_0 {x : Int32} (hd : ev_d M pc (.iload_n 0) 1 pc') (kk : Ev E M d pc' (some (.int x) :: r) (.int x :: st) h sz k n Q) : Ev E M d pc (some (.int x) :: r) st h sz k n Q := by
  obtain ⟨hd, rfl⟩ := hd
  exact ev_pure (fun hx hb hL kw => lv_iload_n hx hb hd rfl (hL.2.2 0 _ rfl) kw) kk
theorem ev_iload_1 {v0 : Option Value} {x : Int32} (hd : ev_d M pc (.iload_n 1) 1 pc') (kk : Ev E M d pc' (v0 :: some (.int x) :: r) (.int x :: st) h sz k n Q) : Ev E M d pc (v0 :: some (.int x) :: r) st h sz k n Q := by
  obtain ⟨hd, rfl⟩ := hd
  exact ev_pure (fun hx hb hL kw => lv_iload_n hx hb hd rfl (hL.2.2 1 _ rfl) kw) kk
theorem ev_iload_2 {v0 v1 : Option Value} {x : Int32} (hd : ev_d M pc (.iload_n 2) 1 pc') (kk : Ev E M d pc' (v0 :: v1 :: some (.int x) :: r) (.int x :: st) h sz k n Q) : Ev E M d pc (v0 :: v1 :: some (.int x) :: r) st h sz k n Q := by
  obtain ⟨hd, rfl⟩ := hd
  exact ev_pure (fun hx hb hL kw => lv_iload_n hx hb hd rfl (hL.2.2 2 _ rfl) kw) kk
theorem ev_iload_3 {v0 v1 v2 : Option Value} {x : Int32} (hd : ev_d M pc (.iload_n 3) 1 pc') (kk : Ev E M d pc' (v0 :: v1 :: v2 :: some (.int x) :: r) (.int x :: st) h sz k n Q) : Ev E M d pc (v0 :: v1 :: v2 :: some (.int x) :: r) st h sz k n Q := by
  obtain ⟨hd, rfl⟩ := hd
  exact ev_pure (fun hx hb hL kw => lv_iload_n hx hb hd rfl (hL.2.2 3 _ rfl) kw) kk
theorem ev_iload_4 {v0 v1 v2 v3 : Option Value} {x : Int32} (hd : ev_d M pc (.iload 4) 2 pc') (kk : Ev E M d pc' (v0 :: v1 :: v2 :: v3 :: some (.int x) :: r) (.int x :: st) h sz k n Q) : Ev E M d pc (v0 :: v1 :: v2 :: v3 :: some (.int x) :: r) st h sz k n Q := by
  obtain ⟨hd, rfl⟩ := hd
  exact ev_pure (fun hx hb hL kw => lv_iload hx hb hd (hL.2.2 4 _ rfl) kw) kk
theorem ev_iload_5 {v0 v1 v2 v3 v4 : Option Value} {x : Int32} (hd : ev_d M pc (.iload 5) 2 pc') (kk : Ev E M d pc' (v0 :: v1 :: v2 :: v3 :: v4 :: some (.int x) :: r) (.int x :: st) h sz k n Q) : Ev E M d pc (v0 :: v1 :: v2 :: v3 :: v4 :: some (.int x) :: r) st h sz k n Q := by
  obtain ⟨hd, rfl⟩ := hd
  exact ev_pure (fun hx hb hL kw => lv_iload hx hb hd (hL.2.2 5 _ rfl) kw) kk
theorem ev_iload_6 {v0 v1 v2 v3 v4 v5 : Option Value} {x : Int32} (hd : ev_d M pc (.iload 6) 2 pc') (kk : Ev E M d pc' (v0 :: v1 :: v2 :: v3 :: v4 :: v5 :: some (.int x) :: r) (.int x :: st) h sz k n Q) : Ev E M d pc (v0 :: v1 :: v2 :: v3 :: v4 :: v5 :: some (.int x) :: r) st h sz k n Q := by
  obtain ⟨hd, rfl⟩ := hd
  exact ev_pure (fun hx hb hL kw => lv_iload hx hb hd (hL.2.2 6 _ rfl) kw) kk
theorem ev_iload_7 {v0 v1 v2 v3 v4 v5 v6 : Option Value} {x : Int32} (hd : ev_d M pc (.iload 7) 2 pc') (kk : Ev E M d pc' (v0 :: v1 :: v2 :: v3 :: v4 :: v5 :: v6 :: some (.int x) :: r) (.int x :: st) h sz k n Q) : Ev E M d pc (v0 :: v1 :: v2 :: v3 :: v4 :: v5 :: v6 :: some (.int x) :: r) st h sz k n Q := by
  obtain ⟨hd, rfl⟩ := hd
  exact ev_pure (fun hx hb hL kw => lv_iload hx hb hd (hL.2.2 7 _ rfl) kw) kk
theorem ev_iload_8 {v0 v1 v2 v3 v4 v5 v6 v7 : Option Value} {x : Int32} (hd : ev_d M pc (.iload 8) 2 pc') (kk : Ev E M d pc' (v0 :: v1 :: v2 :: v3 :: v4 :: v5 :: v6 :: v7 :: some (.int x) :: r) (.int x :: st) h sz k n Q) : Ev E M d pc (v0 :: v1 :: v2 :: v3 :: v4 :: v5 :: v6 :: v7 :: some (.int x) :: r) st h sz k n Q := by
  obtain ⟨hd, rfl⟩ := hd
  exact ev_pure (fun hx hb hL kw => lv_iload hx hb hd (hL.2.2 8 _ rfl) kw) kk
theorem ev_iload_9 {v0 v1 v2 v3 v4 v5 v6 v7 v8 : Option Value} {x : Int32} (hd : ev_d M pc (.iload 9) 2 pc') (kk : Ev E M d pc' (v0 :: v1 :: v2 :: v3 :: v4 :: v5 :: v6 :: v7 :: v8 :: some (.int x) :: r) (.int x :: st) h sz k n Q) : Ev E M d pc (v0 :: v1 :: v2 :: v3 :: v4 :: v5 :: v6 :: v7 :: v8 :: some (.int x) :: r) st h sz k n Q := by
  obtain ⟨hd, rfl⟩ := hd
  exact ev_pure (fun hx hb hL kw => lv_iload hx hb hd (hL.2.2 9 _ rfl) kw) kk
theorem ev_iload_10 {v0 v1 v2 v3 v4 v5 v6 v7 v8 v9 : Option Value} {x : Int32} (hd : ev_d M pc (.iload 10) 2 pc') (kk : Ev E M d pc' (v0 :: v1 :: v2 :: v3 :: v4 :: v5 :: v6 :: v7 :: v8 :: v9 :: some (.int x) :: r) (.int x :: st) h sz k n Q) : Ev E M d pc (v0 :: v1 :: v2 :: v3 :: v4 :: v5 :: v6 :: v7 :: v8 :: v9 :: some (.int x) :: r) st h sz k n Q := by
  obtain ⟨hd, rfl⟩ := hd
  exact ev_pure (fun hx hb hL kw => lv_iload hx hb hd (hL.2.2 10 _ rfl) kw) kk
theorem ev_iload_11 {v0 v1 v2 v3 v4 v5 v6 v7 v8 v9 v10 : Option Value} {x : Int32} (hd : ev_d M pc (.iload 11) 2 pc') (kk : Ev E M d pc' (v0 :: v1 :: v2 :: v3 :: v4 :: v5 :: v6 :: v7 :: v8 :: v9 :: v10 :: some (.int x) :: r) (.int x :: st) h sz k n Q) : Ev E M d pc (v0 :: v1 :: v2 :: v3 :: v4 :: v5 :: v6 :: v7 :: v8 :: v9 :: v10 :: some (.int x) :: r) st h sz k n Q := by
  obtain ⟨hd, rfl⟩ := hd
  exact ev_pure (fun hx hb hL kw => lv_iload hx hb hd (hL.2.2 11 _ rfl) kw) kk
theorem ev_iload_12 {v0 v1 v2 v3 v4 v5 v6 v7 v8 v9 v10 v11 : Option Value} {x : Int32} (hd : ev_d M pc (.iload 12) 2 pc') (kk : Ev E M d pc' (v0 :: v1 :: v2 :: v3 :: v4 :: v5 :: v6 :: v7 :: v8 :: v9 :: v10 :: v11 :: some (.int x) :: r) (.int x :: st) h sz k n Q) : Ev E M d pc (v0 :: v1 :: v2 :: v3 :: v4 :: v5 :: v6 :: v7 :: v8 :: v9 :: v10 :: v11 :: some (.int x) :: r) st h sz k n Q := by
  obtain ⟨hd, rfl⟩ := hd
  exact ev_pure (fun hx hb hL kw => lv_iload hx hb hd (hL.2.2 12 _ rfl) kw) kk
theorem ev_iload_13 {v0 v1 v2 v3 v4 v5 v6 v7 v8 v9 v10 v11 v12 : Option Value} {x : Int32} (hd : ev_d M pc (.iload 13) 2 pc') (kk : Ev E M d pc' (v0 :: v1 :: v2 :: v3 :: v4 :: v5 :: v6 :: v7 :: v8 :: v9 :: v10 :: v11 :: v12 :: some (.int x) :: r) (.int x :: st) h sz k n Q) : Ev E M d pc (v0 :: v1 :: v2 :: v3 :: v4 :: v5 :: v6 :: v7 :: v8 :: v9 :: v10 :: v11 :: v12 :: some (.int x) :: r) st h sz k n Q := by
  obtain ⟨hd, rfl⟩ := hd
  exact ev_pure (fun hx hb hL kw => lv_iload hx hb hd (hL.2.2 13 _ rfl) kw) kk
theorem ev_aload_0 {x : Nat} (hd : ev_d M pc (.aload_n 0) 1 pc') (kk : Ev E M d pc' (some (.ref x) :: r) (.ref x :: st) h sz k n Q) : Ev E M d pc (some (.ref x) :: r) st h sz k n Q := by
  obtain ⟨hd, rfl⟩ := hd
  exact ev_pure (fun hx hb hL kw => lv_aload_n hx hb hd rfl (hL.2.2 0 _ rfl) kw) kk
theorem ev_aload_1 {v0 : Option Value} {x : Nat} (hd : ev_d M pc (.aload_n 1) 1 pc') (kk : Ev E M d pc' (v0 :: some (.ref x) :: r) (.ref x :: st) h sz k n Q) : Ev E M d pc (v0 :: some (.ref x) :: r) st h sz k n Q := by
  obtain ⟨hd, rfl⟩ := hd
  exact ev_pure (fun hx hb hL kw => lv_aload_n hx hb hd rfl (hL.2.2 1 _ rfl) kw) kk
theorem ev_aload_2 {v0 v1 : Option Value} {x : Nat} (hd : ev_d M pc (.aload_n 2) 1 pc') (kk : Ev E M d pc' (v0 :: v1 :: some (.ref x) :: r) (.ref x :: st) h sz k n Q) : Ev E M d pc (v0 :: v1 :: some (.ref x) :: r) st h sz k n Q := by
  obtain ⟨hd, rfl⟩ := hd
  exact ev_pure (fun hx hb hL kw => lv_aload_n hx hb hd rfl (hL.2.2 2 _ rfl) kw) kk
theorem ev_aload_3 {v0 v1 v2 : Option Value} {x : Nat} (hd : ev_d M pc (.aload_n 3) 1 pc') (kk : Ev E M d pc' (v0 :: v1 :: v2 :: some (.ref x) :: r) (.ref x :: st) h sz k n Q) : Ev E M d pc (v0 :: v1 :: v2 :: some (.ref x) :: r) st h sz k n Q := by
  obtain ⟨hd, rfl⟩ := hd
  exact ev_pure (fun hx hb hL kw => lv_aload_n hx hb hd rfl (hL.2.2 3 _ rfl) kw) kk
theorem ev_aload_4 {v0 v1 v2 v3 : Option Value} {x : Nat} (hd : ev_d M pc (.aload 4) 2 pc') (kk : Ev E M d pc' (v0 :: v1 :: v2 :: v3 :: some (.ref x) :: r) (.ref x :: st) h sz k n Q) : Ev E M d pc (v0 :: v1 :: v2 :: v3 :: some (.ref x) :: r) st h sz k n Q := by
  obtain ⟨hd, rfl⟩ := hd
  exact ev_pure (fun hx hb hL kw => lv_aload hx hb hd (hL.2.2 4 _ rfl) kw) kk
theorem ev_aload_5 {v0 v1 v2 v3 v4 : Option Value} {x : Nat} (hd : ev_d M pc (.aload 5) 2 pc') (kk : Ev E M d pc' (v0 :: v1 :: v2 :: v3 :: v4 :: some (.ref x) :: r) (.ref x :: st) h sz k n Q) : Ev E M d pc (v0 :: v1 :: v2 :: v3 :: v4 :: some (.ref x) :: r) st h sz k n Q := by
  obtain ⟨hd, rfl⟩ := hd
  exact ev_pure (fun hx hb hL kw => lv_aload hx hb hd (hL.2.2 5 _ rfl) kw) kk
theorem ev_aload_6 {v0 v1 v2 v3 v4 v5 : Option Value} {x : Nat} (hd : ev_d M pc (.aload 6) 2 pc') (kk : Ev E M d pc' (v0 :: v1 :: v2 :: v3 :: v4 :: v5 :: some (.ref x) :: r) (.ref x :: st) h sz k n Q) : Ev E M d pc (v0 :: v1 :: v2 :: v3 :: v4 :: v5 :: some (.ref x) :: r) st h sz k n Q := by
  obtain ⟨hd, rfl⟩ := hd
  exact ev_pure (fun hx hb hL kw => lv_aload hx hb hd (hL.2.2 6 _ rfl) kw) kk
theorem ev_aload_7 {v0 v1 v2 v3 v4 v5 v6 : Option Value} {x : Nat} (hd : ev_d M pc (.aload 7) 2 pc') (kk : Ev E M d pc' (v0 :: v1 :: v2 :: v3 :: v4 :: v5 :: v6 :: some (.ref x) :: r) (.ref x :: st) h sz k n Q) : Ev E M d pc (v0 :: v1 :: v2 :: v3 :: v4 :: v5 :: v6 :: some (.ref x) :: r) st h sz k n Q := by
  obtain ⟨hd, rfl⟩ := hd
  exact ev_pure (fun hx hb hL kw => lv_aload hx hb hd (hL.2.2 7 _ rfl) kw) kk
theorem ev_aload_8 {v0 v1 v2 v3 v4 v5 v6 v7 : Option Value} {x : Nat} (hd : ev_d M pc (.aload 8) 2 pc') (kk : Ev E M d pc' (v0 :: v1 :: v2 :: v3 :: v4 :: v5 :: v6 :: v7 :: some (.ref x) :: r) (.ref x :: st) h sz k n Q) : Ev E M d pc (v0 :: v1 :: v2 :: v3 :: v4 :: v5 :: v6 :: v7 :: some (.ref x) :: r) st h sz k n Q := by
  obtain ⟨hd, rfl⟩ := hd
  exact ev_pure (fun hx hb hL kw => lv_aload hx hb hd (hL.2.2 8 _ rfl) kw) kk
theorem ev_aload_9 {v0 v1 v2 v3 v4 v5 v6 v7 v8 : Option Value} {x : Nat} (hd : ev_d M pc (.aload 9) 2 pc') (kk : Ev E M d pc' (v0 :: v1 :: v2 :: v3 :: v4 :: v5 :: v6 :: v7 :: v8 :: some (.ref x) :: r) (.ref x :: st) h sz k n Q) : Ev E M d pc (v0 :: v1 :: v2 :: v3 :: v4 :: v5 :: v6 :: v7 :: v8 :: some (.ref x) :: r) st h sz k n Q := by
  obtain ⟨hd, rfl⟩ := hd
  exact ev_pure (fun hx hb hL kw => lv_aload hx hb hd (hL.2.2 9 _ rfl) kw) kk
theorem ev_aload_10 {v0 v1 v2 v3 v4 v5 v6 v7 v8 v9 : Option Value} {x : Nat} (hd : ev_d M pc (.aload 10) 2 pc') (kk : Ev E M d pc' (v0 :: v1 :: v2 :: v3 :: v4 :: v5 :: v6 :: v7 :: v8 :: v9 :: some (.ref x) :: r) (.ref x :: st) h sz k n Q) : Ev E M d pc (v0 :: v1 :: v2 :: v3 :: v4 :: v5 :: v6 :: v7 :: v8 :: v9 :: some (.ref x) :: r) st h sz k n Q := by
  obtain ⟨hd, rfl⟩ := hd
  exact ev_pure (fun hx hb hL kw => lv_aload hx hb hd (hL.2.2 10 _ rfl) kw) kk
theorem ev_aload_11 {v0 v1 v2 v3 v4 v5 v6 v7 v8 v9 v10 : Option Value} {x : Nat} (hd : ev_d M pc (.aload 11) 2 pc') (kk : Ev E M d pc' (v0 :: v1 :: v2 :: v3 :: v4 :: v5 :: v6 :: v7 :: v8 :: v9 :: v10 :: some (.ref x) :: r) (.ref x :: st) h sz k n Q) : Ev E M d pc (v0 :: v1 :: v2 :: v3 :: v4 :: v5 :: v6 :: v7 :: v8 :: v9 :: v10 :: some (.ref x) :: r) st h sz k n Q := by
  obtain ⟨hd, rfl⟩ := hd
  exact ev_pure (fun hx hb hL kw => lv_aload hx hb hd (hL.2.2 11 _ rfl) kw) kk
theorem ev_aload_12 {v0 v1 v2 v3 v4 v5 v6 v7 v8 v9 v10 v11 : Option Value} {x : Nat} (hd : ev_d M pc (.aload 12) 2 pc') (kk : Ev E M d pc' (v0 :: v1 :: v2 :: v3 :: v4 :: v5 :: v6 :: v7 :: v8 :: v9 :: v10 :: v11 :: some (.ref x) :: r) (.ref x :: st) h sz k n Q) : Ev E M d pc (v0 :: v1 :: v2 :: v3 :: v4 :: v5 :: v6 :: v7 :: v8 :: v9 :: v10 :: v11 :: some (.ref x) :: r) st h sz k n Q := by
  obtain ⟨hd, rfl⟩ := hd
  exact ev_pure (fun hx hb hL kw => lv_aload hx hb hd (hL.2.2 12 _ rfl) kw) kk
theorem ev_aload_13 {v0 v1 v2 v3 v4 v5 v6 v7 v8 v9 v10 v11 v12 : Option Value} {x : Nat} (hd : ev_d M pc (.aload 13) 2 pc') (kk : Ev E M d pc' (v0 :: v1 :: v2 :: v3 :: v4 :: v5 :: v6 :: v7 :: v8 :: v9 :: v10 :: v11 :: v12 :: some (.ref x) :: r) (.ref x :: st) h sz k n Q) : Ev E M d pc (v0 :: v1 :: v2 :: v3 :: v4 :: v5 :: v6 :: v7 :: v8 :: v9 :: v10 :: v11 :: v12 :: some (.ref x) :: r) st h sz k n Q := by
  obtain ⟨hd, rfl⟩ := hd
  exact ev_pure (fun hx hb hL kw => lv_aload hx hb hd (hL.2.2 13 _ rfl) kw) kk
theorem ev_aNload_0 (hd : ev_d M pc (.aload_n 0) 1 pc') (kk : Ev E M d pc' (some (.null) :: r) (.null :: st) h sz k n Q) : Ev E M d pc (some (.null) :: r) st h sz k n Q := by
  obtain ⟨hd, rfl⟩ := hd
  exact ev_pure (fun hx hb hL kw => lv_aload_nN hx hb hd rfl (hL.2.2 0 _ rfl) kw) kk
theorem ev_aNload_1 {v0 : Option Value} (hd : ev_d M pc (.aload_n 1) 1 pc') (kk : Ev E M d pc' (v0 :: some (.null) :: r) (.null :: st) h sz k n Q) : Ev E M d pc (v0 :: some (.null) :: r) st h sz k n Q := by
  obtain ⟨hd, rfl⟩ := hd
  exact ev_pure (fun hx hb hL kw => lv_aload_nN hx hb hd rfl (hL.2.2 1 _ rfl) kw) kk
theorem ev_aNload_2 {v0 v1 : Option Value} (hd : ev_d M pc (.aload_n 2) 1 pc') (kk : Ev E M d pc' (v0 :: v1 :: some (.null) :: r) (.null :: st) h sz k n Q) : Ev E M d pc (v0 :: v1 :: some (.null) :: r) st h sz k n Q := by
  obtain ⟨hd, rfl⟩ := hd
  exact ev_pure (fun hx hb hL kw => lv_aload_nN hx hb hd rfl (hL.2.2 2 _ rfl) kw) kk
theorem ev_aNload_3 {v0 v1 v2 : Option Value} (hd : ev_d M pc (.aload_n 3) 1 pc') (kk : Ev E M d pc' (v0 :: v1 :: v2 :: some (.null) :: r) (.null :: st) h sz k n Q) : Ev E M d pc (v0 :: v1 :: v2 :: some (.null) :: r) st h sz k n Q := by
  obtain ⟨hd, rfl⟩ := hd
  exact ev_pure (fun hx hb hL kw => lv_aload_nN hx hb hd rfl (hL.2.2 3 _ rfl) kw) kk
theorem ev_aNload_4 {v0 v1 v2 v3 : Option Value} (hd : ev_d M pc (.aload 4) 2 pc') (kk : Ev E M d pc' (v0 :: v1 :: v2 :: v3 :: some (.null) :: r) (.null :: st) h sz k n Q) : Ev E M d pc (v0 :: v1 :: v2 :: v3 :: some (.null) :: r) st h sz k n Q := by
  obtain ⟨hd, rfl⟩ := hd
  exact ev_pure (fun hx hb hL kw => lv_aloadN hx hb hd (hL.2.2 4 _ rfl) kw) kk
theorem ev_aNload_5 {v0 v1 v2 v3 v4 : Option Value} (hd : ev_d M pc (.aload 5) 2 pc') (kk : Ev E M d pc' (v0 :: v1 :: v2 :: v3 :: v4 :: some (.null) :: r) (.null :: st) h sz k n Q) : Ev E M d pc (v0 :: v1 :: v2 :: v3 :: v4 :: some (.null) :: r) st h sz k n Q := by
  obtain ⟨hd, rfl⟩ := hd
  exact ev_pure (fun hx hb hL kw => lv_aloadN hx hb hd (hL.2.2 5 _ rfl) kw) kk
theorem ev_lload_0 {x : Int64} (hd : ev_d M pc (.lload_n 0) 1 pc') (kk : Ev E M d pc' (some (.long x) :: r) (.long x :: st) h sz k n Q) : Ev E M d pc (some (.long x) :: r) st h sz k n Q := by
  obtain ⟨hd, rfl⟩ := hd
  exact ev_pure (fun hx hb hL kw => lv_lload_n hx hb hd rfl (hL.2.2 0 _ rfl) kw) kk
theorem ev_lload_1 {v0 : Option Value} {x : Int64} (hd : ev_d M pc (.lload_n 1) 1 pc') (kk : Ev E M d pc' (v0 :: some (.long x) :: r) (.long x :: st) h sz k n Q) : Ev E M d pc (v0 :: some (.long x) :: r) st h sz k n Q := by
  obtain ⟨hd, rfl⟩ := hd
  exact ev_pure (fun hx hb hL kw => lv_lload_n hx hb hd rfl (hL.2.2 1 _ rfl) kw) kk
theorem ev_lload_2 {v0 v1 : Option Value} {x : Int64} (hd : ev_d M pc (.lload_n 2) 1 pc') (kk : Ev E M d pc' (v0 :: v1 :: some (.long x) :: r) (.long x :: st) h sz k n Q) : Ev E M d pc (v0 :: v1 :: some (.long x) :: r) st h sz k n Q := by
  obtain ⟨hd, rfl⟩ := hd
  exact ev_pure (fun hx hb hL kw => lv_lload_n hx hb hd rfl (hL.2.2 2 _ rfl) kw) kk
theorem ev_lload_3 {v0 v1 v2 : Option Value} {x : Int64} (hd : ev_d M pc (.lload_n 3) 1 pc') (kk : Ev E M d pc' (v0 :: v1 :: v2 :: some (.long x) :: r) (.long x :: st) h sz k n Q) : Ev E M d pc (v0 :: v1 :: v2 :: some (.long x) :: r) st h sz k n Q := by
  obtain ⟨hd, rfl⟩ := hd
  exact ev_pure (fun hx hb hL kw => lv_lload_n hx hb hd rfl (hL.2.2 3 _ rfl) kw) kk
theorem ev_lload_4 {v0 v1 v2 v3 : Option Value} {x : Int64} (hd : ev_d M pc (.lload 4) 2 pc') (kk : Ev E M d pc' (v0 :: v1 :: v2 :: v3 :: some (.long x) :: r) (.long x :: st) h sz k n Q) : Ev E M d pc (v0 :: v1 :: v2 :: v3 :: some (.long x) :: r) st h sz k n Q := by
  obtain ⟨hd, rfl⟩ := hd
  exact ev_pure (fun hx hb hL kw => lv_lload hx hb hd (hL.2.2 4 _ rfl) kw) kk
theorem ev_lload_5 {v0 v1 v2 v3 v4 : Option Value} {x : Int64} (hd : ev_d M pc (.lload 5) 2 pc') (kk : Ev E M d pc' (v0 :: v1 :: v2 :: v3 :: v4 :: some (.long x) :: r) (.long x :: st) h sz k n Q) : Ev E M d pc (v0 :: v1 :: v2 :: v3 :: v4 :: some (.long x) :: r) st h sz k n Q := by
  obtain ⟨hd, rfl⟩ := hd
  exact ev_pure (fun hx hb hL kw => lv_lload hx hb hd (hL.2.2 5 _ rfl) kw) kk
theorem ev_lload_6 {v0 v1 v2 v3 v4 v5 : Option Value} {x : Int64} (hd : ev_d M pc (.lload 6) 2 pc') (kk : Ev E M d pc' (v0 :: v1 :: v2 :: v3 :: v4 :: v5 :: some (.long x) :: r) (.long x :: st) h sz k n Q) : Ev E M d pc (v0 :: v1 :: v2 :: v3 :: v4 :: v5 :: some (.long x) :: r) st h sz k n Q := by
  obtain ⟨hd, rfl⟩ := hd
  exact ev_pure (fun hx hb hL kw => lv_lload hx hb hd (hL.2.2 6 _ rfl) kw) kk
theorem ev_lload_7 {v0 v1 v2 v3 v4 v5 v6 : Option Value} {x : Int64} (hd : ev_d M pc (.lload 7) 2 pc') (kk : Ev E M d pc' (v0 :: v1 :: v2 :: v3 :: v4 :: v5 :: v6 :: some (.long x) :: r) (.long x :: st) h sz k n Q) : Ev E M d pc (v0 :: v1 :: v2 :: v3 :: v4 :: v5 :: v6 :: some (.long x) :: r) st h sz k n Q := by
  obtain ⟨hd, rfl⟩ := hd
  exact ev_pure (fun hx hb hL kw => lv_lload hx hb hd (hL.2.2 7 _ rfl) kw) kk
theorem ev_istore_0 {v0 : Option Value} {x : Int32} (hd : ev_d M pc (.istore_n 0) 1 pc') (hn : 0 < M.2.2.1) (kk : Ev E M d pc' (some (.int x) :: r) st h sz k n Q) : Ev E M d pc (v0 :: r) (.int x :: st) h sz k n Q := by
  obtain ⟨hd, rfl⟩ := hd
  exact fun p e R s m args below meth c H locs cells slots lsr hC hR hL h1 h2 h3 h4 => (fun hx hb => lv_istore_n hx hb hd rfl (ev_has hL) hn rfl (fun ls' hl' => kk p e R s m args below meth c H locs cells slots ls' hC hR (ev_L_set (i := 0) (v := .int x) (ls := (v0 :: r)) hl' (fun w hw => by cases hw)) h1 h2 h3 h4)) hC.ex hC.cd
theorem ev_istore_1 {v0 v1 : Option Value} {x : Int32} (hd : ev_d M pc (.istore_n 1) 1 pc') (hn : 1 < M.2.2.1) (hp : ev_c1 v0 = true) (kk : Ev E M d pc' (v0 :: some (.int x) :: r) st h sz k n Q) : Ev E M d pc (v0 :: v1 :: r) (.int x :: st) h sz k n Q := by
  obtain ⟨hd, rfl⟩ := hd
  exact fun p e R s m args below meth c H locs cells slots lsr hC hR hL h1 h2 h3 h4 => (fun hx hb => lv_istore_n hx hb hd rfl (ev_has hL) hn rfl (fun ls' hl' => kk p e R s m args below meth c H locs cells slots ls' hC hR (ev_L_set (i := 1) (v := .int x) (ls := (v0 :: v1 :: r)) hl' (fun w hw => ev_c1_of hp hw)) h1 h2 h3 h4)) hC.ex hC.cd
theorem ev_istore_2 {v0 v1 v2 : Option Value} {x : Int32} (hd : ev_d M pc (.istore_n 2) 1 pc') (hn : 2 < M.2.2.1) (hp : ev_c1 v1 = true) (kk : Ev E M d pc' (v0 :: v1 :: some (.int x) :: r) st h sz k n Q) : Ev E M d pc (v0 :: v1 :: v2 :: r) (.int x :: st) h sz k n Q := by
  obtain ⟨hd, rfl⟩ := hd
  exact fun p e R s m args below meth c H locs cells slots lsr hC hR hL h1 h2 h3 h4 => (fun hx hb => lv_istore_n hx hb hd rfl (ev_has hL) hn rfl (fun ls' hl' => kk p e R s m args below meth c H locs cells slots ls' hC hR (ev_L_set (i := 2) (v := .int x) (ls := (v0 :: v1 :: v2 :: r)) hl' (fun w hw => ev_c1_of hp hw)) h1 h2 h3 h4)) hC.ex hC.cd
theorem ev_istore_3 {v0 v1 v2 v3 : Option Value} {x : Int32} (hd : ev_d M pc (.istore_n 3) 1 pc') (hn : 3 < M.2.2.1) (hp : ev_c1 v2 = true) (kk : Ev E M d pc' (v0 :: v1 :: v2 :: some (.int x) :: r) st h sz k n Q) : Ev E M d pc (v0 :: v1 :: v2 :: v3 :: r) (.int x :: st) h sz k n Q := by
  obtain ⟨hd, rfl⟩ := hd
  exact fun p e R s m args below meth c H locs cells slots lsr hC hR hL h1 h2 h3 h4 => (fun hx hb => lv_istore_n hx hb hd rfl (ev_has hL) hn rfl (fun ls' hl' => kk p e R s m args below meth c H locs cells slots ls' hC hR (ev_L_set (i := 3) (v := .int x) (ls := (v0 :: v1 :: v2 :: v3 :: r)) hl' (fun w hw => ev_c1_of hp hw)) h1 h2 h3 h4)) hC.ex hC.cd
theorem ev_istore_4 {v0 v1 v2 v3 v4 : Option Value} {x : Int32} (hd : ev_d M pc (.istore 4) 2 pc') (hn : 4 < M.2.2.1) (hp : ev_c1 v3 = true) (kk : Ev E M d pc' (v0 :: v1 :: v2 :: v3 :: some (.int x) :: r) st h sz k n Q) : Ev E M d pc (v0 :: v1 :: v2 :: v3 :: v4 :: r) (.int x :: st) h sz k n Q := by
  obtain ⟨hd, rfl⟩ := hd
  exact fun p e R s m args below meth c H locs cells slots lsr hC hR hL h1 h2 h3 h4 => (fun hx hb => lv_istore hx hb hd (ev_has hL) hn rfl (fun ls' hl' => kk p e R s m args below meth c H locs cells slots ls' hC hR (ev_L_set (i := 4) (v := .int x) (ls := (v0 :: v1 :: v2 :: v3 :: v4 :: r)) hl' (fun w hw => ev_c1_of hp hw)) h1 h2 h3 h4)) hC.ex hC.cd
theorem ev_istore_5 {v0 v1 v2 v3 v4 v5 : Option Value} {x : Int32} (hd : ev_d M pc (.istore 5) 2 pc') (hn : 5 < M.2.2.1) (hp : ev_c1 v4 = true) (kk : Ev E M d pc' (v0 :: v1 :: v2 :: v3 :: v4 :: some (.int x) :: r) st h sz k n Q) : Ev E M d pc (v0 :: v1 :: v2 :: v3 :: v4 :: v5 :: r) (.int x :: st) h sz k n Q := by
  obtain ⟨hd, rfl⟩ := hd
  exact fun p e R s m args below meth c H locs cells slots lsr hC hR hL h1 h2 h3 h4 => (fun hx hb => lv_istore hx hb hd (ev_has hL) hn rfl (fun ls' hl' => kk p e R s m args below meth c H locs cells slots ls' hC hR (ev_L_set (i := 5) (v := .int x) (ls := (v0 :: v1 :: v2 :: v3 :: v4 :: v5 :: r)) hl' (fun w hw => ev_c1_of hp hw)) h1 h2 h3 h4)) hC.ex hC.cd
theorem ev_istore_6 {v0 v1 v2 v3 v4 v5 v6 : Option Value} {x : Int32} (hd : ev_d M pc (.istore 6) 2 pc') (hn : 6 < M.2.2.1) (hp : ev_c1 v5 = true) (kk : Ev E M d pc' (v0 :: v1 :: v2 :: v3 :: v4 :: v5 :: some (.int x) :: r) st h sz k n Q) : Ev E M d pc (v0 :: v1 :: v2 :: v3 :: v4 :: v5 :: v6 :: r) (.int x :: st) h sz k n Q := by
  obtain ⟨hd, rfl⟩ := hd
  exact fun p e R s m args below meth c H locs cells slots lsr hC hR hL h1 h2 h3 h4 => (fun hx hb => lv_istore hx hb hd (ev_has hL) hn rfl (fun ls' hl' => kk p e R s m args below meth c H locs cells slots ls' hC hR (ev_L_set (i := 6) (v := .int x) (ls := (v0 :: v1 :: v2 :: v3 :: v4 :: v5 :: v6 :: r)) hl' (fun w hw => ev_c1_of hp hw)) h1 h2 h3 h4)) hC.ex hC.cd
theorem ev_istore_7 {v0 v1 v2 v3 v4 v5 v6 v7 : Option Value} {x : Int32} (hd : ev_d M pc (.istore 7) 2 pc') (hn : 7 < M.2.2.1) (hp : ev_c1 v6 = true) (kk : Ev E M d pc' (v0 :: v1 :: v2 :: v3 :: v4 :: v5 :: v6 :: some (.int x) :: r) st h sz k n Q) : Ev E M d pc (v0 :: v1 :: v2 :: v3 :: v4 :: v5 :: v6 :: v7 :: r) (.int x :: st) h sz k n Q := by
  obtain ⟨hd, rfl⟩ := hd
  exact fun p e R s m args below meth c H locs cells slots lsr hC hR hL h1 h2 h3 h4 => (fun hx hb => lv_istore hx hb hd (ev_has hL) hn rfl (fun ls' hl' => kk p e R s m args below meth c H locs cells slots ls' hC hR (ev_L_set (i := 7) (v := .int x) (ls := (v0 :: v1 :: v2 :: v3 :: v4 :: v5 :: v6 :: v7 :: r)) hl' (fun w hw => ev_c1_of hp hw)) h1 h2 h3 h4)) hC.ex hC.cd
theorem ev_istore_8 {v0 v1 v2 v3 v4 v5 v6 v7 v8 : Option Value} {x : Int32} (hd : ev_d M pc (.istore 8) 2 pc') (hn : 8 < M.2.2.1) (hp : ev_c1 v7 = true) (kk : Ev E M d pc' (v0 :: v1 :: v2 :: v3 :: v4 :: v5 :: v6 :: v7 :: some (.int x) :: r) st h sz k n Q) : Ev E M d pc (v0 :: v1 :: v2 :: v3 :: v4 :: v5 :: v6 :: v7 :: v8 :: r) (.int x :: st) h sz k n Q := by
  obtain ⟨hd, rfl⟩ := hd
  exact fun p e R s m args below meth c H locs cells slots lsr hC hR hL h1 h2 h3 h4 => (fun hx hb => lv_istore hx hb hd (ev_has hL) hn rfl (fun ls' hl' => kk p e R s m args below meth c H locs cells slots ls' hC hR (ev_L_set (i := 8) (v := .int x) (ls := (v0 :: v1 :: v2 :: v3 :: v4 :: v5 :: v6 :: v7 :: v8 :: r)) hl' (fun w hw => ev_c1_of hp hw)) h1 h2 h3 h4)) hC.ex hC.cd
theorem ev_istore_9 {v0 v1 v2 v3 v4 v5 v6 v7 v8 v9 : Option Value} {x : Int32} (hd : ev_d M pc (.istore 9) 2 pc') (hn : 9 < M.2.2.1) (hp : ev_c1 v8 = true) (kk : Ev E M d pc' (v0 :: v1 :: v2 :: v3 :: v4 :: v5 :: v6 :: v7 :: v8 :: some (.int x) :: r) st h sz k n Q) : Ev E M d pc (v0 :: v1 :: v2 :: v3 :: v4 :: v5 :: v6 :: v7 :: v8 :: v9 :: r) (.int x :: st) h sz k n Q := by
  obtain ⟨hd, rfl⟩ := hd
  exact fun p e R s m args below meth c H locs cells slots lsr hC hR hL h1 h2 h3 h4 => (fun hx hb => lv_istore hx hb hd (ev_has hL) hn rfl (fun ls' hl' => kk p e R s m args below meth c H locs cells slots ls' hC hR (ev_L_set (i := 9) (v := .int x) (ls := (v0 :: v1 :: v2 :: v3 :: v4 :: v5 :: v6 :: v7 :: v8 :: v9 :: r)) hl' (fun w hw => ev_c1_of hp hw)) h1 h2 h3 h4)) hC.ex hC.cd
theorem ev_istore_10 {v0 v1 v2 v3 v4 v5 v6 v7 v8 v9 v10 : Option Value} {x : Int32} (hd : ev_d M pc (.istore 10) 2 pc') (hn : 10 < M.2.2.1) (hp : ev_c1 v9 = true) (kk : Ev E M d pc' (v0 :: v1 :: v2 :: v3 :: v4 :: v5 :: v6 :: v7 :: v8 :: v9 :: some (.int x) :: r) st h sz k n Q) : Ev E M d pc (v0 :: v1 :: v2 :: v3 :: v4 :: v5 :: v6 :: v7 :: v8 :: v9 :: v10 :: r) (.int x :: st) h sz k n Q := by
  obtain ⟨hd, rfl⟩ := hd
  exact fun p e R s m args below meth c H locs cells slots lsr hC hR hL h1 h2 h3 h4 => (fun hx hb => lv_istore hx hb hd (ev_has hL) hn rfl (fun ls' hl' => kk p e R s m args below meth c H locs cells slots ls' hC hR (ev_L_set (i := 10) (v := .int x) (ls := (v0 :: v1 :: v2 :: v3 :: v4 :: v5 :: v6 :: v7 :: v8 :: v9 :: v10 :: r)) hl' (fun w hw => ev_c1_of hp hw)) h1 h2 h3 h4)) hC.ex hC.cd
theorem ev_istore_11 {v0 v1 v2 v3 v4 v5 v6 v7 v8 v9 v10 v11 : Option Value} {x : Int32} (hd : ev_d M pc (.istore 11) 2 pc') (hn : 11 < M.2.2.1) (hp : ev_c1 v10 = true) (kk : Ev E M d pc' (v0 :: v1 :: v2 :: v3 :: v4 :: v5 :: v6 :: v7 :: v8 :: v9 :: v10 :: some (.int x) :: r) st h sz k n Q) : Ev E M d pc (v0 :: v1 :: v2 :: v3 :: v4 :: v5 :: v6 :: v7 :: v8 :: v9 :: v10 :: v11 :: r) (.int x :: st) h sz k n Q := by
  obtain ⟨hd, rfl⟩ := hd
  exact fun p e R s m args below meth c H locs cells slots lsr hC hR hL h1 h2 h3 h4 => (fun hx hb => lv_istore hx hb hd (ev_has hL) hn rfl (fun ls' hl' => kk p e R s m args below meth c H locs cells slots ls' hC hR (ev_L_set (i := 11) (v := .int x) (ls := (v0 :: v1 :: v2 :: v3 :: v4 :: v5 :: v6 :: v7 :: v8 :: v9 :: v10 :: v11 :: r)) hl' (fun w hw => ev_c1_of hp hw)) h1 h2 h3 h4)) hC.ex hC.cd
theorem ev_istore_12 {v0 v1 v2 v3 v4 v5 v6 v7 v8 v9 v10 v11 v12 : Option Value} {x : Int32} (hd : ev_d M pc (.istore 12) 2 pc') (hn : 12 < M.2.2.1) (hp : ev_c1 v11 = true) (kk : Ev E M d pc' (v0 :: v1 :: v2 :: v3 :: v4 :: v5 :: v6 :: v7 :: v8 :: v9 :: v10 :: v11 :: some (.int x) :: r) st h sz k n Q) : Ev E M d pc (v0 :: v1 :: v2 :: v3 :: v4 :: v5 :: v6 :: v7 :: v8 :: v9 :: v10 :: v11 :: v12 :: r) (.int x :: st) h sz k n Q := by
  obtain ⟨hd, rfl⟩ := hd
  exact fun p e R s m args below meth c H locs cells slots lsr hC hR hL h1 h2 h3 h4 => (fun hx hb => lv_istore hx hb hd (ev_has hL) hn rfl (fun ls' hl' => kk p e R s m args below meth c H locs cells slots ls' hC hR (ev_L_set (i := 12) (v := .int x) (ls := (v0 :: v1 :: v2 :: v3 :: v4 :: v5 :: v6 :: v7 :: v8 :: v9 :: v10 :: v11 :: v12 :: r)) hl' (fun w hw => ev_c1_of hp hw)) h1 h2 h3 h4)) hC.ex hC.cd
theorem ev_istore_13 {v0 v1 v2 v3 v4 v5 v6 v7 v8 v9 v10 v11 v12 v13 : Option Value} {x : Int32} (hd : ev_d M pc (.istore 13) 2 pc') (hn : 13 < M.2.2.1) (hp : ev_c1 v12 = true) (kk : Ev E M d pc' (v0 :: v1 :: v2 :: v3 :: v4 :: v5 :: v6 :: v7 :: v8 :: v9 :: v10 :: v11 :: v12 :: some (.int x) :: r) st h sz k n Q) : Ev E M d pc (v0 :: v1 :: v2 :: v3 :: v4 :: v5 :: v6 :: v7 :: v8 :: v9 :: v10 :: v11 :: v12 :: v13 :: r) (.int x :: st) h sz k n Q := by
  obtain ⟨hd, rfl⟩ := hd
  exact fun p e R s m args below meth c H locs cells slots lsr hC hR hL h1 h2 h3 h4 => (fun hx hb => lv_istore hx hb hd (ev_has hL) hn rfl (fun ls' hl' => kk p e R s m args below meth c H locs cells slots ls' hC hR (ev_L_set (i := 13) (v := .int x) (ls := (v0 :: v1 :: v2 :: v3 :: v4 :: v5 :: v6 :: v7 :: v8 :: v9 :: v10 :: v11 :: v12 :: v13 :: r)) hl' (fun w hw => ev_c1_of hp hw)) h1 h2 h3 h4)) hC.ex hC.cd
theorem ev_astore_0 {v0 : Option Value} {x : Nat} (hd : ev_d M pc (.astore_n 0) 1 pc') (hn : 0 < M.2.2.1) (kk : Ev E M d pc' (some (.ref x) :: r) st h sz k n Q) : Ev E M d pc (v0 :: r) (.ref x :: st) h sz k n Q := by
  obtain ⟨hd, rfl⟩ := hd
  exact fun p e R s m args below meth c H locs cells slots lsr hC hR hL h1 h2 h3 h4 => (fun hx hb => lv_astore_n hx hb hd rfl (ev_has hL) hn rfl (fun ls' hl' => kk p e R s m args below meth c H locs cells slots ls' hC hR (ev_L_set (i := 0) (v := .ref x) (ls := (v0 :: r)) hl' (fun w hw => by cases hw)) h1 h2 h3 h4)) hC.ex hC.cd
theorem ev_astore_1 {v0 v1 : Option Value} {x : Nat} (hd : ev_d M pc (.astore_n 1) 1 pc') (hn : 1 < M.2.2.1) (hp : ev_c1 v0 = true) (kk : Ev E M d pc' (v0 :: some (.ref x) :: r) st h sz k n Q) : Ev E M d pc (v0 :: v1 :: r) (.ref x :: st) h sz k n Q := by
  obtain ⟨hd, rfl⟩ := hd
  exact fun p e R s m args below meth c H locs cells slots lsr hC hR hL h1 h2 h3 h4 => (fun hx hb => lv_astore_n hx hb hd rfl (ev_has hL) hn rfl (fun ls' hl' => kk p e R s m args below meth c H locs cells slots ls' hC hR (ev_L_set (i := 1) (v := .ref x) (ls := (v0 :: v1 :: r)) hl' (fun w hw => ev_c1_of hp hw)) h1 h2 h3 h4)) hC.ex hC.cd
theorem ev_astore_2 {v0 v1 v2 : Option Value} {x : Nat} (hd : ev_d M pc (.astore_n 2) 1 pc') (hn : 2 < M.2.2.1) (hp : ev_c1 v1 = true) (kk : Ev E M d pc' (v0 :: v1 :: some (.ref x) :: r) st h sz k n Q) : Ev E M d pc (v0 :: v1 :: v2 :: r) (.ref x :: st) h sz k n Q := by
  obtain ⟨hd, rfl⟩ := hd
  exact fun p e R s m args below meth c H locs cells slots lsr hC hR hL h1 h2 h3 h4 => (fun hx hb => lv_astore_n hx hb hd rfl (ev_has hL) hn rfl (fun ls' hl' => kk p e R s m args below meth c H locs cells slots ls' hC hR (ev_L_set (i := 2) (v := .ref x) (ls := (v0 :: v1 :: v2 :: r)) hl' (fun w hw => ev_c1_of hp hw)) h1 h2 h3 h4)) hC.ex hC.cd
theorem ev_astore_3 {v0 v1 v2 v3 : Option Value} {x : Nat} (hd : ev_d M pc (.astore_n 3) 1 pc') (hn : 3 < M.2.2.1) (hp : ev_c1 v2 = true) (kk : Ev E M d pc' (v0 :: v1 :: v2 :: some (.ref x) :: r) st h sz k n Q) : Ev E M d pc (v0 :: v1 :: v2 :: v3 :: r) (.ref x :: st) h sz k n Q := by
  obtain ⟨hd, rfl⟩ := hd
  exact fun p e R s m args below meth c H locs cells slots lsr hC hR hL h1 h2 h3 h4 => (fun hx hb => lv_astore_n hx hb hd rfl (ev_has hL) hn rfl (fun ls' hl' => kk p e R s m args below meth c H locs cells slots ls' hC hR (ev_L_set (i := 3) (v := .ref x) (ls := (v0 :: v1 :: v2 :: v3 :: r)) hl' (fun w hw => ev_c1_of hp hw)) h1 h2 h3 h4)) hC.ex hC.cd
theorem ev_astore_4 {v0 v1 v2 v3 v4 : Option Value} {x : Nat} (hd : ev_d M pc (.astore 4) 2 pc') (hn : 4 < M.2.2.1) (hp : ev_c1 v3 = true) (kk : Ev E M d pc' (v0 :: v1 :: v2 :: v3 :: some (.ref x) :: r) st h sz k n Q) : Ev E M d pc (v0 :: v1 :: v2 :: v3 :: v4 :: r) (.ref x :: st) h sz k n Q := by
  obtain ⟨hd, rfl⟩ := hd
  exact fun p e R s m args below meth c H locs cells slots lsr hC hR hL h1 h2 h3 h4 => (fun hx hb => lv_astore hx hb hd (ev_has hL) hn rfl (fun ls' hl' => kk p e R s m args below meth c H locs cells slots ls' hC hR (ev_L_set (i := 4) (v := .ref x) (ls := (v0 :: v1 :: v2 :: v3 :: v4 :: r)) hl' (fun w hw => ev_c1_of hp hw)) h1 h2 h3 h4)) hC.ex hC.cd
theorem ev_astore_5 {v0 v1 v2 v3 v4 v5 : Option Value} {x : Nat} (hd : ev_d M pc (.astore 5) 2 pc') (hn : 5 < M.2.2.1) (hp : ev_c1 v4 = true) (kk : Ev E M d pc' (v0 :: v1 :: v2 :: v3 :: v4 :: some (.ref x) :: r) st h sz k n Q) : Ev E M d pc (v0 :: v1 :: v2 :: v3 :: v4 :: v5 :: r) (.ref x :: st) h sz k n Q := by
  obtain ⟨hd, rfl⟩ := hd
  exact fun p e R s m args below meth c H locs cells slots lsr hC hR hL h1 h2 h3 h4 => (fun hx hb => lv_astore hx hb hd (ev_has hL) hn rfl (fun ls' hl' => kk p e R s m args below meth c H locs cells slots ls' hC hR (ev_L_set (i := 5) (v := .ref x) (ls := (v0 :: v1 :: v2 :: v3 :: v4 :: v5 :: r)) hl' (fun w hw => ev_c1_of hp hw)) h1 h2 h3 h4)) hC.ex hC.cd
theorem ev_astore_6 {v0 v1 v2 v3 v4 v5 v6 : Option Value} {x : Nat} (hd : ev_d M pc (.astore 6) 2 pc') (hn : 6 < M.2.2.1) (hp : ev_c1 v5 = true) (kk : Ev E M d pc' (v0 :: v1 :: v2 :: v3 :: v4 :: v5 :: some (.ref x) :: r) st h sz k n Q) : Ev E M d pc (v0 :: v1 :: v2 :: v3 :: v4 :: v5 :: v6 :: r) (.ref x :: st) h sz k n Q := by
  obtain ⟨hd, rfl⟩ := hd
  exact fun p e R s m args below meth c H locs cells slots lsr hC hR hL h1 h2 h3 h4 => (fun hx hb => lv_astore hx hb hd (ev_has hL) hn rfl (fun ls' hl' => kk p e R s m args below meth c H locs cells slots ls' hC hR (ev_L_set (i := 6) (v := .ref x) (ls := (v0 :: v1 :: v2 :: v3 :: v4 :: v5 :: v6 :: r)) hl' (fun w hw => ev_c1_of hp hw)) h1 h2 h3 h4)) hC.ex hC.cd
theorem ev_astore_7 {v0 v1 v2 v3 v4 v5 v6 v7 : Option Value} {x : Nat} (hd : ev_d M pc (.astore 7) 2 pc') (hn : 7 < M.2.2.1) (hp : ev_c1 v6 = true) (kk : Ev E M d pc' (v0 :: v1 :: v2 :: v3 :: v4 :: v5 :: v6 :: some (.ref x) :: r) st h sz k n Q) : Ev E M d pc (v0 :: v1 :: v2 :: v3 :: v4 :: v5 :: v6 :: v7 :: r) (.ref x :: st) h sz k n Q := by
  obtain ⟨hd, rfl⟩ := hd
  exact fun p e R s m args below meth c H locs cells slots lsr hC hR hL h1 h2 h3 h4 => (fun hx hb => lv_astore hx hb hd (ev_has hL) hn rfl (fun ls' hl' => kk p e R s m args below meth c H locs cells slots ls' hC hR (ev_L_set (i := 7) (v := .ref x) (ls := (v0 :: v1 :: v2 :: v3 :: v4 :: v5 :: v6 :: v7 :: r)) hl' (fun w hw => ev_c1_of hp hw)) h1 h2 h3 h4)) hC.ex hC.cd
theorem ev_astore_8 {v0 v1 v2 v3 v4 v5 v6 v7 v8 : Option Value} {x : Nat} (hd : ev_d M pc (.astore 8) 2 pc') (hn : 8 < M.2.2.1) (hp : ev_c1 v7 = true) (kk : Ev E M d pc' (v0 :: v1 :: v2 :: v3 :: v4 :: v5 :: v6 :: v7 :: some (.ref x) :: r) st h sz k n Q) : Ev E M d pc (v0 :: v1 :: v2 :: v3 :: v4 :: v5 :: v6 :: v7 :: v8 :: r) (.ref x :: st) h sz k n Q := by
  obtain ⟨hd, rfl⟩ := hd
  exact fun p e R s m args below meth c H locs cells slots lsr hC hR hL h1 h2 h3 h4 => (fun hx hb => lv_astore hx hb hd (ev_has hL) hn rfl (fun ls' hl' => kk p e R s m args below meth c H locs cells slots ls' hC hR (ev_L_set (i := 8) (v := .ref x) (ls := (v0 :: v1 :: v2 :: v3 :: v4 :: v5 :: v6 :: v7 :: v8 :: r)) hl' (fun w hw => ev_c1_of hp hw)) h1 h2 h3 h4)) hC.ex hC.cd
theorem ev_astore_9 {v0 v1 v2 v3 v4 v5 v6 v7 v8 v9 : Option Value} {x : Nat} (hd : ev_d M pc (.astore 9) 2 pc') (hn : 9 < M.2.2.1) (hp : ev_c1 v8 = true) (kk : Ev E M d pc' (v0 :: v1 :: v2 :: v3 :: v4 :: v5 :: v6 :: v7 :: v8 :: some (.ref x) :: r) st h sz k n Q) : Ev E M d pc (v0 :: v1 :: v2 :: v3 :: v4 :: v5 :: v6 :: v7 :: v8 :: v9 :: r) (.ref x :: st) h sz k n Q := by
  obtain ⟨hd, rfl⟩ := hd
  exact fun p e R s m args below meth c H locs cells slots lsr hC hR hL h1 h2 h3 h4 => (fun hx hb => lv_astore hx hb hd (ev_has hL) hn rfl (fun ls' hl' => kk p e R s m args below meth c H locs cells slots ls' hC hR (ev_L_set (i := 9) (v := .ref x) (ls := (v0 :: v1 :: v2 :: v3 :: v4 :: v5 :: v6 :: v7 :: v8 :: v9 :: r)) hl' (fun w hw => ev_c1_of hp hw)) h1 h2 h3 h4)) hC.ex hC.cd
theorem ev_astore_10 {v0 v1 v2 v3 v4 v5 v6 v7 v8 v9 v10 : Option Value} {x : Nat} (hd : ev_d M pc (.astore 10) 2 pc') (hn : 10 < M.2.2.1) (hp : ev_c1 v9 = true) (kk : Ev E M d pc' (v0 :: v1 :: v2 :: v3 :: v4 :: v5 :: v6 :: v7 :: v8 :: v9 :: some (.ref x) :: r) st h sz k n Q) : Ev E M d pc (v0 :: v1 :: v2 :: v3 :: v4 :: v5 :: v6 :: v7 :: v8 :: v9 :: v10 :: r) (.ref x :: st) h sz k n Q := by
  obtain ⟨hd, rfl⟩ := hd
  exact fun p e R s m args below meth c H locs cells slots lsr hC hR hL h1 h2 h3 h4 => (fun hx hb => lv_astore hx hb hd (ev_has hL) hn rfl (fun ls' hl' => kk p e R s m args below meth c H locs cells slots ls' hC hR (ev_L_set (i := 10) (v := .ref x) (ls := (v0 :: v1 :: v2 :: v3 :: v4 :: v5 :: v6 :: v7 :: v8 :: v9 :: v10 :: r)) hl' (fun w hw => ev_c1_of hp hw)) h1 h2 h3 h4)) hC.ex hC.cd
theorem ev_astore_11 {v0 v1 v2 v3 v4 v5 v6 v7 v8 v9 v10 v11 : Option Value} {x : Nat} (hd : ev_d M pc (.astore 11) 2 pc') (hn : 11 < M.2.2.1) (hp : ev_c1 v10 = true) (kk : Ev E M d pc' (v0 :: v1 :: v2 :: v3 :: v4 :: v5 :: v6 :: v7 :: v8 :: v9 :: v10 :: some (.ref x) :: r) st h sz k n Q) : Ev E M d pc (v0 :: v1 :: v2 :: v3 :: v4 :: v5 :: v6 :: v7 :: v8 :: v9 :: v10 :: v11 :: r) (.ref x :: st) h sz k n Q := by
  obtain ⟨hd, rfl⟩ := hd
  exact fun p e R s m args below meth c H locs cells slots lsr hC hR hL h1 h2 h3 h4 => (fun hx hb => lv_astore hx hb hd (ev_has hL) hn rfl (fun ls' hl' => kk p e R s m args below meth c H locs cells slots ls' hC hR (ev_L_set (i := 11) (v := .ref x) (ls := (v0 :: v1 :: v2 :: v3 :: v4 :: v5 :: v6 :: v7 :: v8 :: v9 :: v10 :: v11 :: r)) hl' (fun w hw => ev_c1_of hp hw)) h1 h2 h3 h4)) hC.ex hC.cd
theorem ev_astore_12 {v0 v1 v2 v3 v4 v5 v6 v7 v8 v9 v10 v11 v12 : Option Value} {x : Nat} (hd : ev_d M pc (.astore 12) 2 pc') (hn : 12 < M.2.2.1) (hp : ev_c1 v11 = true) (kk : Ev E M d pc' (v0 :: v1 :: v2 :: v3 :: v4 :: v5 :: v6 :: v7 :: v8 :: v9 :: v10 :: v11 :: some (.ref x) :: r) st h sz k n Q) : Ev E M d pc (v0 :: v1 :: v2 :: v3 :: v4 :: v5 :: v6 :: v7 :: v8 :: v9 :: v10 :: v11 :: v12 :: r) (.ref x :: st) h sz k n Q := by
  obtain ⟨hd, rfl⟩ := hd
  exact fun p e R s m args below meth c H locs cells slots lsr hC hR hL h1 h2 h3 h4 => (fun hx hb => lv_astore hx hb hd (ev_has hL) hn rfl (fun ls' hl' => kk p e R s m args below meth c H locs cells slots ls' hC hR (ev_L_set (i := 12) (v := .ref x) (ls := (v0 :: v1 :: v2 :: v3 :: v4 :: v5 :: v6 :: v7 :: v8 :: v9 :: v10 :: v11 :: v12 :: r)) hl' (fun w hw => ev_c1_of hp hw)) h1 h2 h3 h4)) hC.ex hC.cd
theorem ev_astore_13 {v0 v1 v2 v3 v4 v5 v6 v7 v8 v9 v10 v11 v12 v13 : Option Value} {x : Nat} (hd : ev_d M pc (.astore 13) 2 pc') (hn : 13 < M.2.2.1) (hp : ev_c1 v12 = true) (kk : Ev E M d pc' (v0 :: v1 :: v2 :: v3 :: v4 :: v5 :: v6 :: v7 :: v8 :: v9 :: v10 :: v11 :: v12 :: some (.ref x) :: r) st h sz k n Q) : Ev E M d pc (v0 :: v1 :: v2 :: v3 :: v4 :: v5 :: v6 :: v7 :: v8 :: v9 :: v10 :: v11 :: v12 :: v13 :: r) (.ref x :: st) h sz k n Q := by
  obtain ⟨hd, rfl⟩ := hd
  exact fun p e R s m args below meth c H locs cells slots lsr hC hR hL h1 h2 h3 h4 => (fun hx hb => lv_astore hx hb hd (ev_has hL) hn rfl (fun ls' hl' => kk p e R s m args below meth c H locs cells slots ls' hC hR (ev_L_set (i := 13) (v := .ref x) (ls := (v0 :: v1 :: v2 :: v3 :: v4 :: v5 :: v6 :: v7 :: v8 :: v9 :: v10 :: v11 :: v12 :: v13 :: r)) hl' (fun w hw => ev_c1_of hp hw)) h1 h2 h3 h4)) hC.ex hC.cd
theorem ev_lstore_0 {v0 v1 : Option Value} {x : Int64} (hd : ev_d M pc (.lstore_n 0) 1 pc') (hn : 0 + 1 < M.2.2.1) (kk : Ev E M d pc' (some (.long x) :: none :: r) st h sz k n Q) : Ev E M d pc (v0 :: v1 :: r) (.long x :: st) h sz k n Q := by
  obtain ⟨hd, rfl⟩ := hd
  exact fun p e R s m args below meth c H locs cells slots lsr hC hR hL h1 h2 h3 h4 => (fun hx hb => lv_lstore_n hx hb hd rfl (ev_has hL) hn rfl (fun ls' hl' => kk p e R s m args below meth c H locs cells slots ls' hC hR (ev_L_gen2 (i := 0) (v := .long x) (ls := (v0 :: v1 :: r)) hl' (fun w hw => by cases hw)) h1 h2 h3 h4)) hC.ex hC.cd
theorem ev_lstore_1 {v0 v1 v2 : Option Value} {x : Int64} (hd : ev_d M pc (.lstore_n 1) 1 pc') (hn : 1 + 1 < M.2.2.1) (hp : ev_c1 v0 = true) (kk : Ev E M d pc' (v0 :: some (.long x) :: none :: r) st h sz k n Q) : Ev E M d pc (v0 :: v1 :: v2 :: r) (.long x :: st) h sz k n Q := by
  obtain ⟨hd, rfl⟩ := hd
  exact fun p e R s m args below meth c H locs cells slots lsr hC hR hL h1 h2 h3 h4 => (fun hx hb => lv_lstore_n hx hb hd rfl (ev_has hL) hn rfl (fun ls' hl' => kk p e R s m args below meth c H locs cells slots ls' hC hR (ev_L_gen2 (i := 1) (v := .long x) (ls := (v0 :: v1 :: v2 :: r)) hl' (fun w hw => ev_c1_of hp hw)) h1 h2 h3 h4)) hC.ex hC.cd
theorem ev_lstore_2 {v0 v1 v2 v3 : Option Value} {x : Int64} (hd : ev_d M pc (.lstore_n 2) 1 pc') (hn : 2 + 1 < M.2.2.1) (hp : ev_c1 v1 = true) (kk : Ev E M d pc' (v0 :: v1 :: some (.long x) :: none :: r) st h sz k n Q) : Ev E M d pc (v0 :: v1 :: v2 :: v3 :: r) (.long x :: st) h sz k n Q := by
  obtain ⟨hd, rfl⟩ := hd
  exact fun p e R s m args below meth c H locs cells slots lsr hC hR hL h1 h2 h3 h4 => (fun hx hb => lv_lstore_n hx hb hd rfl (ev_has hL) hn rfl (fun ls' hl' => kk p e R s m args below meth c H locs cells slots ls' hC hR (ev_L_gen2 (i := 2) (v := .long x) (ls := (v0 :: v1 :: v2 :: v3 :: r)) hl' (fun w hw => ev_c1_of hp hw)) h1 h2 h3 h4)) hC.ex hC.cd
theorem ev_lstore_3 {v0 v1 v2 v3 v4 : Option Value} {x : Int64} (hd : ev_d M pc (.lstore_n 3) 1 pc') (hn : 3 + 1 < M.2.2.1) (hp : ev_c1 v2 = true) (kk : Ev E M d pc' (v0 :: v1 :: v2 :: some (.long x) :: none :: r) st h sz k n Q) : Ev E M d pc (v0 :: v1 :: v2 :: v3 :: v4 :: r) (.long x :: st) h sz k n Q := by
  obtain ⟨hd, rfl⟩ := hd
  exact fun p e R s m args below meth c H locs cells slots lsr hC hR hL h1 h2 h3 h4 => (fun hx hb => lv_lstore_n hx hb hd rfl (ev_has hL) hn rfl (fun ls' hl' => kk p e R s m args below meth c H locs cells slots ls' hC hR (ev_L_gen2 (i := 3) (v := .long x) (ls := (v0 :: v1 :: v2 :: v3 :: v4 :: r)) hl' (fun w hw => ev_c1_of hp hw)) h1 h2 h3 h4)) hC.ex hC.cd
theorem ev_lstore_4 {v0 v1 v2 v3 v4 v5 : Option Value} {x : Int64} (hd : ev_d M pc (.lstore 4) 2 pc') (hn : 4 + 1 < M.2.2.1) (hp : ev_c1 v3 = true) (kk : Ev E M d pc' (v0 :: v1 :: v2 :: v3 :: some (.long x) :: none :: r) st h sz k n Q) : Ev E M d pc (v0 :: v1 :: v2 :: v3 :: v4 :: v5 :: r) (.long x :: st) h sz k n Q := by
  obtain ⟨hd, rfl⟩ := hd
  exact fun p e R s m args below meth c H locs cells slots lsr hC hR hL h1 h2 h3 h4 => (fun hx hb => lv_lstore hx hb hd (ev_has hL) hn rfl (fun ls' hl' => kk p e R s m args below meth c H locs cells slots ls' hC hR (ev_L_gen2 (i := 4) (v := .long x) (ls := (v0 :: v1 :: v2 :: v3 :: v4 :: v5 :: r)) hl' (fun w hw => ev_c1_of hp hw)) h1 h2 h3 h4)) hC.ex hC.cd
theorem ev_lstore_5 {v0 v1 v2 v3 v4 v5 v6 : Option Value} {x : Int64} (hd : ev_d M pc (.lstore 5) 2 pc') (hn : 5 + 1 < M.2.2.1) (hp : ev_c1 v4 = true) (kk : Ev E M d pc' (v0 :: v1 :: v2 :: v3 :: v4 :: some (.long x) :: none :: r) st h sz k n Q) : Ev E M d pc (v0 :: v1 :: v2 :: v3 :: v4 :: v5 :: v6 :: r) (.long x :: st) h sz k n Q := by
  obtain ⟨hd, rfl⟩ := hd
  exact fun p e R s m args below meth c H locs cells slots lsr hC hR hL h1 h2 h3 h4 => (fun hx hb => lv_lstore hx hb hd (ev_has hL) hn rfl (fun ls' hl' => kk p e R s m args below meth c H locs cells slots ls' hC hR (ev_L_gen2 (i := 5) (v := .long x) (ls := (v0 :: v1 :: v2 :: v3 :: v4 :: v5 :: v6 :: r)) hl' (fun w hw => ev_c1_of hp hw)) h1 h2 h3 h4)) hC.ex hC.cd
theorem ev_lstore_6 {v0 v1 v2 v3 v4 v5 v6 v7 : Option Value} {x : Int64} (hd : ev_d M pc (.lstore 6) 2 pc') (hn : 6 + 1 < M.2.2.1) (hp : ev_c1 v5 = true) (kk : Ev E M d pc' (v0 :: v1 :: v2 :: v3 :: v4 :: v5 :: some (.long x) :: none :: r) st h sz k n Q) : Ev E M d pc (v0 :: v1 :: v2 :: v3 :: v4 :: v5 :: v6 :: v7 :: r) (.long x :: st) h sz k n Q := by
  obtain ⟨hd, rfl⟩ := hd
  exact fun p e R s m args below meth c H locs cells slots lsr hC hR hL h1 h2 h3 h4 => (fun hx hb => lv_lstore hx hb hd (ev_has hL) hn rfl (fun ls' hl' => kk p e R s m args below meth c H locs cells slots ls' hC hR (ev_L_gen2 (i := 6) (v := .long x) (ls := (v0 :: v1 :: v2 :: v3 :: v4 :: v5 :: v6 :: v7 :: r)) hl' (fun w hw => ev_c1_of hp hw)) h1 h2 h3 h4)) hC.ex hC.cd
theorem ev_iinc_0 {x y : Int32} {j : Int} (hd : ev_d M pc (.iinc 0 j) 3 pc') (hv : x + Int32.ofInt j = y) (hn : 0 < M.2.2.1) (kk : Ev E M d pc' (some (.int y) :: r) st h sz k n Q) : Ev E M d pc (some (.int x) :: r) st h sz k n Q := by
  obtain ⟨hd, rfl⟩ := hd
  exact fun p e R s m args below meth c H locs cells slots lsr hC hR hL h1 h2 h3 h4 => (fun hx hb => lv_iinc hx hb hd (ev_has1 (hL.2.2 0 _ rfl) hL) (k := 0) rfl hv hn rfl (fun ls' hl' => kk p e R s m args below meth c H locs cells slots ls' hC hR (ev_L_set1 (i := 0) (v := .int y) (ls := (some (.int x) :: r)) hl' (fun w hw => by cases hw)) h1 h2 h3 h4)) hC.ex hC.cd
theorem ev_inc1_0 {i : Nat} (hd : ev_d M pc (.iinc 0 1) 3 pc') (hn : 0 < M.2.2.1) (kk : Ev E M d pc' (some (.int (nI (i + 1))) :: r) st h sz k n Q) : Ev E M d pc (some (.int (nI i)) :: r) st h sz k n Q := ev_iinc_0 hd (nI_1 i) hn  kk
theorem ev_iinc_1 {v0 : Option Value} {x y : Int32} {j : Int} (hd : ev_d M pc (.iinc 1 j) 3 pc') (hv : x + Int32.ofInt j = y) (hn : 1 < M.2.2.1) (hp : ev_c1 v0 = true) (kk : Ev E M d pc' (v0 :: some (.int y) :: r) st h sz k n Q) : Ev E M d pc (v0 :: some (.int x) :: r) st h sz k n Q := by
  obtain ⟨hd, rfl⟩ := hd
  exact fun p e R s m args below meth c H locs cells slots lsr hC hR hL h1 h2 h3 h4 => (fun hx hb => lv_iinc hx hb hd (ev_has1 (hL.2.2 1 _ rfl) hL) (k := 0) rfl hv hn rfl (fun ls' hl' => kk p e R s m args below meth c H locs cells slots ls' hC hR (ev_L_set1 (i := 1) (v := .int y) (ls := (v0 :: some (.int x) :: r)) hl' (fun w hw => ev_c1_of hp hw)) h1 h2 h3 h4)) hC.ex hC.cd
theorem ev_inc1_1 {v0 : Option Value} {i : Nat} (hd : ev_d M pc (.iinc 1 1) 3 pc') (hn : 1 < M.2.2.1) (hp : ev_c1 v0 = true) (kk : Ev E M d pc' (v0 :: some (.int (nI (i + 1))) :: r) st h sz k n Q) : Ev E M d pc (v0 :: some (.int (nI i)) :: r) st h sz k n Q := ev_iinc_1 hd (nI_1 i) hn hp kk
theorem ev_iinc_2 {v0 v1 : Option Value} {x y : Int32} {j : Int} (hd : ev_d M pc (.iinc 2 j) 3 pc') (hv : x + Int32.ofInt j = y) (hn : 2 < M.2.2.1) (hp : ev_c1 v1 = true) (kk : Ev E M d pc' (v0 :: v1 :: some (.int y) :: r) st h sz k n Q) : Ev E M d pc (v0 :: v1 :: some (.int x) :: r) st h sz k n Q := by
  obtain ⟨hd, rfl⟩ := hd
  exact fun p e R s m args below meth c H locs cells slots lsr hC hR hL h1 h2 h3 h4 => (fun hx hb => lv_iinc hx hb hd (ev_has1 (hL.2.2 2 _ rfl) hL) (k := 0) rfl hv hn rfl (fun ls' hl' => kk p e R s m args below meth c H locs cells slots ls' hC hR (ev_L_set1 (i := 2) (v := .int y) (ls := (v0 :: v1 :: some (.int x) :: r)) hl' (fun w hw => ev_c1_of hp hw)) h1 h2 h3 h4)) hC.ex hC.cd
theorem ev_inc1_2 {v0 v1 : Option Value} {i : Nat} (hd : ev_d M pc (.iinc 2 1) 3 pc') (hn : 2 < M.2.2.1) (hp : ev_c1 v1 = true) (kk : Ev E M d pc' (v0 :: v1 :: some (.int (nI (i + 1))) :: r) st h sz k n Q) : Ev E M d pc (v0 :: v1 :: some (.int (nI i)) :: r) st h sz k n Q := ev_iinc_2 hd (nI_1 i) hn hp kk
theorem ev_iinc_3 {v0 v1 v2 : Option Value} {x y : Int32} {j : Int} (hd : ev_d M pc (.iinc 3 j) 3 pc') (hv : x + Int32.ofInt j = y) (hn : 3 < M.2.2.1) (hp : ev_c1 v2 = true) (kk : Ev E M d pc' (v0 :: v1 :: v2 :: some (.int y) :: r) st h sz k n Q) : Ev E M d pc (v0 :: v1 :: v2 :: some (.int x) :: r) st h sz k n Q := by
  obtain ⟨hd, rfl⟩ := hd
  exact fun p e R s m args below meth c H locs cells slots lsr hC hR hL h1 h2 h3 h4 => (fun hx hb => lv_iinc hx hb hd (ev_has1 (hL.2.2 3 _ rfl) hL) (k := 0) rfl hv hn rfl (fun ls' hl' => kk p e R s m args below meth c H locs cells slots ls' hC hR (ev_L_set1 (i := 3) (v := .int y) (ls := (v0 :: v1 :: v2 :: some (.int x) :: r)) hl' (fun w hw => ev_c1_of hp hw)) h1 h2 h3 h4)) hC.ex hC.cd
theorem ev_inc1_3 {v0 v1 v2 : Option Value} {i : Nat} (hd : ev_d M pc (.iinc 3 1) 3 pc') (hn : 3 < M.2.2.1) (hp : ev_c1 v2 = true) (kk : Ev E M d pc' (v0 :: v1 :: v2 :: some (.int (nI (i + 1))) :: r) st h sz k n Q) : Ev E M d pc (v0 :: v1 :: v2 :: some (.int (nI i)) :: r) st h sz k n Q := ev_iinc_3 hd (nI_1 i) hn hp kk
theorem ev_iinc_4 {v0 v1 v2 v3 : Option Value} {x y : Int32} {j : Int} (hd : ev_d M pc (.iinc 4 j) 3 pc') (hv : x + Int32.ofInt j = y) (hn : 4 < M.2.2.1) (hp : ev_c1 v3 = true) (kk : Ev E M d pc' (v0 :: v1 :: v2 :: v3 :: some (.int y) :: r) st h sz k n Q) : Ev E M d pc (v0 :: v1 :: v2 :: v3 :: some (.int x) :: r) st h sz k n Q := by
  obtain ⟨hd, rfl⟩ := hd
  exact fun p e R s m args below meth c H locs cells slots lsr hC hR hL h1 h2 h3 h4 => (fun hx hb => lv_iinc hx hb hd (ev_has1 (hL.2.2 4 _ rfl) hL) (k := 0) rfl hv hn rfl (fun ls' hl' => kk p e R s m args below meth c H locs cells slots ls' hC hR (ev_L_set1 (i := 4) (v := .int y) (ls := (v0 :: v1 :: v2 :: v3 :: some (.int x) :: r)) hl' (fun w hw => ev_c1_of hp hw)) h1 h2 h3 h4)) hC.ex hC.cd
theorem ev_inc1_4 {v0 v1 v2 v3 : Option Value} {i : Nat} (hd : ev_d M pc (.iinc 4 1) 3 pc') (hn : 4 < M.2.2.1) (hp : ev_c1 v3 = true) (kk : Ev E M d pc' (v0 :: v1 :: v2 :: v3 :: some (.int (nI (i + 1))) :: r) st h sz k n Q) : Ev E M d pc (v0 :: v1 :: v2 :: v3 :: some (.int (nI i)) :: r) st h sz k n Q := ev_iinc_4 hd (nI_1 i) hn hp kk
theorem ev_iinc_5 {v0 v1 v2 v3 v4 : Option Value} {x y : Int32} {j : Int} (hd : ev_d M pc (.iinc 5 j) 3 pc') (hv : x + Int32.ofInt j = y) (hn : 5 < M.2.2.1) (hp : ev_c1 v4 = true) (kk : Ev E M d pc' (v0 :: v1 :: v2 :: v3 :: v4 :: some (.int y) :: r) st h sz k n Q) : Ev E M d pc (v0 :: v1 :: v2 :: v3 :: v4 :: some (.int x) :: r) st h sz k n Q := by
  obtain ⟨hd, rfl⟩ := hd
  exact fun p e R s m args below meth c H locs cells slots lsr hC hR hL h1 h2 h3 h4 => (fun hx hb => lv_iinc hx hb hd (ev_has1 (hL.2.2 5 _ rfl) hL) (k := 0) rfl hv hn rfl (fun ls' hl' => kk p e R s m args below meth c H locs cells slots ls' hC hR (ev_L_set1 (i := 5) (v := .int y) (ls := (v0 :: v1 :: v2 :: v3 :: v4 :: some (.int x) :: r)) hl' (fun w hw => ev_c1_of hp hw)) h1 h2 h3 h4)) hC.ex hC.cd
theorem ev_inc1_5 {v0 v1 v2 v3 v4 : Option Value} {i : Nat} (hd : ev_d M pc (.iinc 5 1) 3 pc') (hn : 5 < M.2.2.1) (hp : ev_c1 v4 = true) (kk : Ev E M d pc' (v0 :: v1 :: v2 :: v3 :: v4 :: some (.int (nI (i + 1))) :: r) st h sz k n Q) : Ev E M d pc (v0 :: v1 :: v2 :: v3 :: v4 :: some (.int (nI i)) :: r) st h sz k n Q := ev_iinc_5 hd (nI_1 i) hn hp kk
theorem ev_iinc_6 {v0 v1 v2 v3 v4 v5 : Option Value} {x y : Int32} {j : Int} (hd : ev_d M pc (.iinc 6 j) 3 pc') (hv : x + Int32.ofInt j = y) (hn : 6 < M.2.2.1) (hp : ev_c1 v5 = true) (kk : Ev E M d pc' (v0 :: v1 :: v2 :: v3 :: v4 :: v5 :: some (.int y) :: r) st h sz k n Q) : Ev E M d pc (v0 :: v1 :: v2 :: v3 :: v4 :: v5 :: some (.int x) :: r) st h sz k n Q := by
  obtain ⟨hd, rfl⟩ := hd
  exact fun p e R s m args below meth c H locs cells slots lsr hC hR hL h1 h2 h3 h4 => (fun hx hb => lv_iinc hx hb hd (ev_has1 (hL.2.2 6 _ rfl) hL) (k := 0) rfl hv hn rfl (fun ls' hl' => kk p e R s m args below meth c H locs cells slots ls' hC hR (ev_L_set1 (i := 6) (v := .int y) (ls := (v0 :: v1 :: v2 :: v3 :: v4 :: v5 :: some (.int x) :: r)) hl' (fun w hw => ev_c1_of hp hw)) h1 h2 h3 h4)) hC.ex hC.cd
theorem ev_inc1_6 {v0 v1 v2 v3 v4 v5 : Option Value} {i : Nat} (hd : ev_d M pc (.iinc 6 1) 3 pc') (hn : 6 < M.2.2.1) (hp : ev_c1 v5 = true) (kk : Ev E M d pc' (v0 :: v1 :: v2 :: v3 :: v4 :: v5 :: some (.int (nI (i + 1))) :: r) st h sz k n Q) : Ev E M d pc (v0 :: v1 :: v2 :: v3 :: v4 :: v5 :: some (.int (nI i)) :: r) st h sz k n Q := ev_iinc_6 hd (nI_1 i) hn hp kk
theorem ev_iinc_7 {v0 v1 v2 v3 v4 v5 v6 : Option Value} {x y : Int32} {j : Int} (hd : ev_d M pc (.iinc 7 j) 3 pc') (hv : x + Int32.ofInt j = y) (hn : 7 < M.2.2.1) (hp : ev_c1 v6 = true) (kk : Ev E M d pc' (v0 :: v1 :: v2 :: v3 :: v4 :: v5 :: v6 :: some (.int y) :: r) st h sz k n Q) : Ev E M d pc (v0 :: v1 :: v2 :: v3 :: v4 :: v5 :: v6 :: some (.int x) :: r) st h sz k n Q := by
  obtain ⟨hd, rfl⟩ := hd
  exact fun p e R s m args below meth c H locs cells slots lsr hC hR hL h1 h2 h3 h4 => (fun hx hb => lv_iinc hx hb hd (ev_has1 (hL.2.2 7 _ rfl) hL) (k := 0) rfl hv hn rfl (fun ls' hl' => kk p e R s m args below meth c H locs cells slots ls' hC hR (ev_L_set1 (i := 7) (v := .int y) (ls := (v0 :: v1 :: v2 :: v3 :: v4 :: v5 :: v6 :: some (.int x) :: r)) hl' (fun w hw => ev_c1_of hp hw)) h1 h2 h3 h4)) hC.ex hC.cd
theorem ev_inc1_7 {v0 v1 v2 v3 v4 v5 v6 : Option Value} {i : Nat} (hd : ev_d M pc (.iinc 7 1) 3 pc') (hn : 7 < M.2.2.1) (hp : ev_c1 v6 = true) (kk : Ev E M d pc' (v0 :: v1 :: v2 :: v3 :: v4 :: v5 :: v6 :: some (.int (nI (i + 1))) :: r) st h sz k n Q) : Ev E M d pc (v0 :: v1 :: v2 :: v3 :: v4 :: v5 :: v6 :: some (.int (nI i)) :: r) st h sz k n Q := ev_iinc_7 hd (nI_1 i) hn hp kk
theorem ev_iinc_8 {v0 v1 v2 v3 v4 v5 v6 v7 : Option Value} {x y : Int32} {j : Int} (hd : ev_d M pc (.iinc 8 j) 3 pc') (hv : x + Int32.ofInt j = y) (hn : 8 < M.2.2.1) (hp : ev_c1 v7 = true) (kk : Ev E M d pc' (v0 :: v1 :: v2 :: v3 :: v4 :: v5 :: v6 :: v7 :: some (.int y) :: r) st h sz k n Q) : Ev E M d pc (v0 :: v1 :: v2 :: v3 :: v4 :: v5 :: v6 :: v7 :: some (.int x) :: r) st h sz k n Q := by
  obtain ⟨hd, rfl⟩ := hd
  exact fun p e R s m args below meth c H locs cells slots lsr hC hR hL h1 h2 h3 h4 => (fun hx hb => lv_iinc hx hb hd (ev_has1 (hL.2.2 8 _ rfl) hL) (k := 0) rfl hv hn rfl (fun ls' hl' => kk p e R s m args below meth c H locs cells slots ls' hC hR (ev_L_set1 (i := 8) (v := .int y) (ls := (v0 :: v1 :: v2 :: v3 :: v4 :: v5 :: v6 :: v7 :: some (.int x) :: r)) hl' (fun w hw => ev_c1_of hp hw)) h1 h2 h3 h4)) hC.ex hC.cd
theorem ev_inc1_8 {v0 v1 v2 v3 v4 v5 v6 v7 : Option Value} {i : Nat} (hd : ev_d M pc (.iinc 8 1) 3 pc') (hn : 8 < M.2.2.1) (hp : ev_c1 v7 = true) (kk : Ev E M d pc' (v0 :: v1 :: v2 :: v3 :: v4 :: v5 :: v6 :: v7 :: some (.int (nI (i + 1))) :: r) st h sz k n Q) : Ev E M d pc (v0 :: v1 :: v2 :: v3 :: v4 :: v5 :: v6 :: v7 :: some (.int (nI i)) :: r) st h sz k n Q := ev_iinc_8 hd (nI_1 i) hn hp kk
theorem ev_iinc_9 {v0 v1 v2 v3 v4 v5 v6 v7 v8 : Option Value} {x y : Int32} {j : Int} (hd : ev_d M pc (.iinc 9 j) 3 pc') (hv : x + Int32.ofInt j = y) (hn : 9 < M.2.2.1) (hp : ev_c1 v8 = true) (kk : Ev E M d pc' (v0 :: v1 :: v2 :: v3 :: v4 :: v5 :: v6 :: v7 :: v8 :: some (.int y) :: r) st h sz k n Q) : Ev E M d pc (v0 :: v1 :: v2 :: v3 :: v4 :: v5 :: v6 :: v7 :: v8 :: some (.int x) :: r) st h sz k n Q := by
  obtain ⟨hd, rfl⟩ := hd
  exact fun p e R s m args below meth c H locs cells slots lsr hC hR hL h1 h2 h3 h4 => (fun hx hb => lv_iinc hx hb hd (ev_has1 (hL.2.2 9 _ rfl) hL) (k := 0) rfl hv hn rfl (fun ls' hl' => kk p e R s m args below meth c H locs cells slots ls' hC hR (ev_L_set1 (i := 9) (v := .int y) (ls := (v0 :: v1 :: v2 :: v3 :: v4 :: v5 :: v6 :: v7 :: v8 :: some (.int x) :: r)) hl' (fun w hw => ev_c1_of hp hw)) h1 h2 h3 h4)) hC.ex hC.cd
theorem ev_inc1_9 {v0 v1 v2 v3 v4 v5 v6 v7 v8 : Option Value} {i : Nat} (hd : ev_d M pc (.iinc 9 1) 3 pc') (hn : 9 < M.2.2.1) (hp : ev_c1 v8 = true) (kk : Ev E M d pc' (v0 :: v1 :: v2 :: v3 :: v4 :: v5 :: v6 :: v7 :: v8 :: some (.int (nI (i + 1))) :: r) st h sz k n Q) : Ev E M d pc (v0 :: v1 :: v2 :: v3 :: v4 :: v5 :: v6 :: v7 :: v8 :: some (.int (nI i)) :: r) st h sz k n Q := ev_iinc_9 hd (nI_1 i) hn hp kk
theorem ev_iinc_10 {v0 v1 v2 v3 v4 v5 v6 v7 v8 v9 : Option Value} {x y : Int32} {j : Int} (hd : ev_d M pc (.iinc 10 j) 3 pc') (hv : x + Int32.ofInt j = y) (hn : 10 < M.2.2.1) (hp : ev_c1 v9 = true) (kk : Ev E M d pc' (v0 :: v1 :: v2 :: v3 :: v4 :: v5 :: v6 :: v7 :: v8 :: v9 :: some (.int y) :: r) st h sz k n Q) : Ev E M d pc (v0 :: v1 :: v2 :: v3 :: v4 :: v5 :: v6 :: v7 :: v8 :: v9 :: some (.int x) :: r) st h sz k n Q := by
  obtain ⟨hd, rfl⟩ := hd
  exact fun p e R s m args below meth c H locs cells slots lsr hC hR hL h1 h2 h3 h4 => (fun hx hb => lv_iinc hx hb hd (ev_has1 (hL.2.2 10 _ rfl) hL) (k := 0) rfl hv hn rfl (fun ls' hl' => kk p e R s m args below meth c H locs cells slots ls' hC hR (ev_L_set1 (i := 10) (v := .int y) (ls := (v0 :: v1 :: v2 :: v3 :: v4 :: v5 :: v6 :: v7 :: v8 :: v9 :: some (.int x) :: r)) hl' (fun w hw => ev_c1_of hp hw)) h1 h2 h3 h4)) hC.ex hC.cd
theorem ev_inc1_10 {v0 v1 v2 v3 v4 v5 v6 v7 v8 v9 : Option Value} {i : Nat} (hd : ev_d M pc (.iinc 10 1) 3 pc') (hn : 10 < M.2.2.1) (hp : ev_c1 v9 = true) (kk : Ev E M d pc' (v0 :: v1 :: v2 :: v3 :: v4 :: v5 :: v6 :: v7 :: v8 :: v9 :: some (.int (nI (i + 1))) :: r) st h sz k n Q) : Ev E M d pc (v0 :: v1 :: v2 :: v3 :: v4 :: v5 :: v6 :: v7 :: v8 :: v9 :: some (.int (nI i)) :: r) st h sz k n Q := ev_iinc_10 hd (nI_1 i) hn hp kk
theorem ev_iinc_11 {v0 v1 v2 v3 v4 v5 v6 v7 v8 v9 v10 : Option Value} {x y : Int32} {j : Int} (hd : ev_d M pc (.iinc 11 j) 3 pc') (hv : x + Int32.ofInt j = y) (hn : 11 < M.2.2.1) (hp : ev_c1 v10 = true) (kk : Ev E M d pc' (v0 :: v1 :: v2 :: v3 :: v4 :: v5 :: v6 :: v7 :: v8 :: v9 :: v10 :: some (.int y) :: r) st h sz k n Q) : Ev E M d pc (v0 :: v1 :: v2 :: v3 :: v4 :: v5 :: v6 :: v7 :: v8 :: v9 :: v10 :: some (.int x) :: r) st h sz k n Q := by
  obtain ⟨hd, rfl⟩ := hd
  exact fun p e R s m args below meth c H locs cells slots lsr hC hR hL h1 h2 h3 h4 => (fun hx hb => lv_iinc hx hb hd (ev_has1 (hL.2.2 11 _ rfl) hL) (k := 0) rfl hv hn rfl (fun ls' hl' => kk p e R s m args below meth c H locs cells slots ls' hC hR (ev_L_set1 (i := 11) (v := .int y) (ls := (v0 :: v1 :: v2 :: v3 :: v4 :: v5 :: v6 :: v7 :: v8 :: v9 :: v10 :: some (.int x) :: r)) hl' (fun w hw => ev_c1_of hp hw)) h1 h2 h3 h4)) hC.ex hC.cd
theorem ev_inc1_11 {v0 v1 v2 v3 v4 v5 v6 v7 v8 v9 v10 : Option Value} {i : Nat} (hd : ev_d M pc (.iinc 11 1) 3 pc') (hn : 11 < M.2.2.1) (hp : ev_c1 v10 = true) (kk : Ev E M d pc' (v0 :: v1 :: v2 :: v3 :: v4 :: v5 :: v6 :: v7 :: v8 :: v9 :: v10 :: some (.int (nI (i + 1))) :: r) st h sz k n Q) : Ev E M d pc (v0 :: v1 :: v2 :: v3 :: v4 :: v5 :: v6 :: v7 :: v8 :: v9 :: v10 :: some (.int (nI i)) :: r) st h sz k n Q := ev_iinc_11 hd (nI_1 i) hn hp kk
theorem ev_iinc_12 {v0 v1 v2 v3 v4 v5 v6 v7 v8 v9 v10 v11 : Option Value} {x y : Int32} {j : Int} (hd : ev_d M pc (.iinc 12 j) 3 pc') (hv : x + Int32.ofInt j = y) (hn : 12 < M.2.2.1) (hp : ev_c1 v11 = true) (kk : Ev E M d pc' (v0 :: v1 :: v2 :: v3 :: v4 :: v5 :: v6 :: v7 :: v8 :: v9 :: v10 :: v11 :: some (.int y) :: r) st h sz k n Q) : Ev E M d pc (v0 :: v1 :: v2 :: v3 :: v4 :: v5 :: v6 :: v7 :: v8 :: v9 :: v10 :: v11 :: some (.int x) :: r) st h sz k n Q := by
  obtain ⟨hd, rfl⟩ := hd
  exact fun p e R s m args below meth c H locs cells slots lsr hC hR hL h1 h2 h3 h4 => (fun hx hb => lv_iinc hx hb hd (ev_has1 (hL.2.2 12 _ rfl) hL) (k := 0) rfl hv hn rfl (fun ls' hl' => kk p e R s m args below meth c H locs cells slots ls' hC hR (ev_L_set1 (i := 12) (v := .int y) (ls := (v0 :: v1 :: v2 :: v3 :: v4 :: v5 :: v6 :: v7 :: v8 :: v9 :: v10 :: v11 :: some (.int x) :: r)) hl' (fun w hw => ev_c1_of hp hw)) h1 h2 h3 h4)) hC.ex hC.cd
theorem ev_inc1_12 {v0 v1 v2 v3 v4 v5 v6 v7 v8 v9 v10 v11 : Option Value} {i : Nat} (hd : ev_d M pc (.iinc 12 1) 3 pc') (hn : 12 < M.2.2.1) (hp : ev_c1 v11 = true) (kk : Ev E M d pc' (v0 :: v1 :: v2 :: v3 :: v4 :: v5 :: v6 :: v7 :: v8 :: v9 :: v10 :: v11 :: some (.int (nI (i + 1))) :: r) st h sz k n Q) : Ev E M d pc (v0 :: v1 :: v2 :: v3 :: v4 :: v5 :: v6 :: v7 :: v8 :: v9 :: v10 :: v11 :: some (.int (nI i)) :: r) st h sz k n Q := ev_iinc_12 hd (nI_1 i) hn hp kk
theorem ev_iinc_13 {v0 v1 v2 v3 v4 v5 v6 v7 v8 v9 v10 v11 v12 : Option Value} {x y : Int32} {j : Int} (hd : ev_d M pc (.iinc 13 j) 3 pc') (hv : x + Int32.ofInt j = y) (hn : 13 < M.2.2.1) (hp : ev_c1 v12 = true) (kk : Ev E M d pc' (v0 :: v1 :: v2 :: v3 :: v4 :: v5 :: v6 :: v7 :: v8 :: v9 :: v10 :: v11 :: v12 :: some (.int y) :: r) st h sz k n Q) : Ev E M d pc (v0 :: v1 :: v2 :: v3 :: v4 :: v5 :: v6 :: v7 :: v8 :: v9 :: v10 :: v11 :: v12 :: some (.int x) :: r) st h sz k n Q := by
  obtain ⟨hd, rfl⟩ := hd
  exact fun p e R s m args below meth c H locs cells slots lsr hC hR hL h1 h2 h3 h4 => (fun hx hb => lv_iinc hx hb hd (ev_has1 (hL.2.2 13 _ rfl) hL) (k := 0) rfl hv hn rfl (fun ls' hl' => kk p e R s m args below meth c H locs cells slots ls' hC hR (ev_L_set1 (i := 13) (v := .int y) (ls := (v0 :: v1 :: v2 :: v3 :: v4 :: v5 :: v6 :: v7 :: v8 :: v9 :: v10 :: v11 :: v12 :: some (.int x) :: r)) hl' (fun w hw => ev_c1_of hp hw)) h1 h2 h3 h4)) hC.ex hC.cd
theorem ev_inc1_13 {v0 v1 v2 v3 v4 v5 v6 v7 v8 v9 v10 v11 v12 : Option Value} {i : Nat} (hd : ev_d M pc (.iinc 13 1) 3 pc') (hn : 13 < M.2.2.1) (hp : ev_c1 v12 = true) (kk : Ev E M d pc' (v0 :: v1 :: v2 :: v3 :: v4 :: v5 :: v6 :: v7 :: v8 :: v9 :: v10 :: v11 :: v12 :: some (.int (nI (i + 1))) :: r) st h sz k n Q) : Ev E M d pc (v0 :: v1 :: v2 :: v3 :: v4 :: v5 :: v6 :: v7 :: v8 :: v9 :: v10 :: v11 :: v12 :: some (.int (nI i)) :: r) st h sz k n Q := ev_iinc_13 hd (nI_1 i) hn hp kk
theorem ev_iconst {j : Int} {v : Int32} (hd : ev_d M pc (.iconst j) 1 pc') (hv : Int32.ofInt j = v) (kk : Ev E M d pc' ls (.int v :: st) h sz k n Q) : Ev E M d pc ls st h sz k n Q := by
  obtain ⟨hd, rfl⟩ := hd
  exact ev_pure (fun hx hb hL kw => lv_iconst hx hb hd hv kw) kk
theorem ev_ic0 (hd : ev_d M pc (.iconst 0) 1 pc') (kk : Ev E M d pc' ls (.int (nI 0) :: st) h sz k n Q) : Ev E M d pc ls st h sz k n Q := by
  obtain ⟨hd, rfl⟩ := hd
  exact ev_pure (fun hx hb hL kw => lv_iconst hx hb hd (by decide +kernel) kw) kk
theorem ev_ic1 (hd : ev_d M pc (.iconst 1) 1 pc') (kk : Ev E M d pc' ls (.int (nI 1) :: st) h sz k n Q) : Ev E M d pc ls st h sz k n Q := by
  obtain ⟨hd, rfl⟩ := hd
  exact ev_pure (fun hx hb hL kw => lv_iconst hx hb hd (by decide +kernel) kw) kk
theorem ev_ic2 (hd : ev_d M pc (.iconst 2) 1 pc') (kk : Ev E M d pc' ls (.int (nI 2) :: st) h sz k n Q) : Ev E M d pc ls st h sz k n Q := by
  obtain ⟨hd, rfl⟩ := hd
  exact ev_pure (fun hx hb hL kw => lv_iconst hx hb hd (by decide +kernel) kw) kk
theorem ev_ic3 (hd : ev_d M pc (.iconst 3) 1 pc') (kk : Ev E M d pc' ls (.int (nI 3) :: st) h sz k n Q) : Ev E M d pc ls st h sz k n Q := by
  obtain ⟨hd, rfl⟩ := hd
  exact ev_pure (fun hx hb hL kw => lv_iconst hx hb hd (by decide +kernel) kw) kk
theorem ev_ic4 (hd : ev_d M pc (.iconst 4) 1 pc') (kk : Ev E M d pc' ls (.int (nI 4) :: st) h sz k n Q) : Ev E M d pc ls st h sz k n Q := by
  obtain ⟨hd, rfl⟩ := hd
  exact ev_pure (fun hx hb hL kw => lv_iconst hx hb hd (by decide +kernel) kw) kk
theorem ev_ic5 (hd : ev_d M pc (.iconst 5) 1 pc') (kk : Ev E M d pc' ls (.int (nI 5) :: st) h sz k n Q) : Ev E M d pc ls st h sz k n Q := by
  obtain ⟨hd, rfl⟩ := hd
  exact ev_pure (fun hx hb hL kw => lv_iconst hx hb hd (by decide +kernel) kw) kk
theorem ev_icm (hd : ev_d M pc (.iconst (-1)) 1 pc') (kk : Ev E M d pc' ls (.int (-1) :: st) h sz k n Q) : Ev E M d pc ls st h sz k n Q := by
  obtain ⟨hd, rfl⟩ := hd
  exact ev_pure (fun hx hb hL kw => lv_iconst hx hb hd (by decide +kernel) kw) kk
theorem ev_bipush {j : Int} {c : Nat} (hd : ev_d M pc (.bipush j) 2 pc') (hv : (Int8.ofInt j).toInt32 = nI c) (kk : Ev E M d pc' ls (.int (nI c) :: st) h sz k n Q) : Ev E M d pc ls st h sz k n Q := by
  obtain ⟨hd, rfl⟩ := hd
  exact ev_pure (fun hx hb hL kw => lv_bipush hx hb hd hv kw) kk
theorem ev_sipush {j : Int} {c : Nat} (hd : ev_d M pc (.sipush j) 3 pc') (hv : (Int16.ofInt j).toInt32 = nI c) (kk : Ev E M d pc' ls (.int (nI c) :: st) h sz k n Q) : Ev E M d pc ls st h sz k n Q := by
  obtain ⟨hd, rfl⟩ := hd
  exact ev_pure (fun hx hb hL kw => lv_sipush hx hb hd hv kw) kk
theorem ev_lconst {j : Fin 2} {v : Int64} (hd : ev_d M pc (.lconst j) 1 pc') (hv : Int64.ofNat (j : Nat) = v) (kk : Ev E M d pc' ls (.long v :: st) h sz k n Q) : Ev E M d pc ls st h sz k n Q := by
  obtain ⟨hd, rfl⟩ := hd
  exact ev_pure (fun hx hb hL kw => lv_lconst hx hb hd hv kw) kk
theorem ev_null (hd : ev_d M pc .aconst_null 1 pc') (kk : Ev E M d pc' ls (.null :: st) h sz k n Q) : Ev E M d pc ls st h sz k n Q := by
  obtain ⟨hd, rfl⟩ := hd
  exact ev_pure (fun hx hb hL kw => lv_null hx hb hd kw) kk
theorem ev_iadd {x y z : Int32} (hd : ev_d M pc .iadd 1 pc') (hz : x + y = z) (kk : Ev E M d pc' ls (.int z :: st) h sz k n Q) : Ev E M d pc ls (.int y :: .int x :: st) h sz k n Q := by
  obtain ⟨hd, rfl⟩ := hd
  subst hz
  exact ev_pure (fun hx hb _ kw => lv_iadd hx hb hd kw) kk
theorem ev_isub {x y z : Int32} (hd : ev_d M pc .isub 1 pc') (hz : x - y = z) (kk : Ev E M d pc' ls (.int z :: st) h sz k n Q) : Ev E M d pc ls (.int y :: .int x :: st) h sz k n Q := by
  obtain ⟨hd, rfl⟩ := hd
  subst hz
  exact ev_pure (fun hx hb _ kw => lv_isub hx hb hd kw) kk
theorem ev_imul {x y z : Int32} (hd : ev_d M pc .imul 1 pc') (hz : x * y = z) (kk : Ev E M d pc' ls (.int z :: st) h sz k n Q) : Ev E M d pc ls (.int y :: .int x :: st) h sz k n Q := by
  obtain ⟨hd, rfl⟩ := hd
  subst hz
  exact ev_pure (fun hx hb _ kw => lv_imul hx hb hd kw) kk
theorem ev_iand {x y z : Int32} (hd : ev_d M pc .iand 1 pc') (hz : x &&& y = z) (kk : Ev E M d pc' ls (.int z :: st) h sz k n Q) : Ev E M d pc ls (.int y :: .int x :: st) h sz k n Q := by
  obtain ⟨hd, rfl⟩ := hd
  subst hz
  exact ev_pure (fun hx hb _ kw => lv_iand hx hb hd kw) kk
theorem ev_ior {x y z : Int32} (hd : ev_d M pc .ior 1 pc') (hz : x ||| y = z) (kk : Ev E M d pc' ls (.int z :: st) h sz k n Q) : Ev E M d pc ls (.int y :: .int x :: st) h sz k n Q := by
  obtain ⟨hd, rfl⟩ := hd
  subst hz
  exact ev_pure (fun hx hb _ kw => lv_ior hx hb hd kw) kk
theorem ev_ixor {x y z : Int32} (hd : ev_d M pc .ixor 1 pc') (hz : x ^^^ y = z) (kk : Ev E M d pc' ls (.int z :: st) h sz k n Q) : Ev E M d pc ls (.int y :: .int x :: st) h sz k n Q := by
  obtain ⟨hd, rfl⟩ := hd
  subst hz
  exact ev_pure (fun hx hb _ kw => lv_ixor hx hb hd kw) kk
theorem ev_ishl {x y z : Int32} (hd : ev_d M pc .ishl 1 pc') (hz : x <<< (y &&& 31) = z) (kk : Ev E M d pc' ls (.int z :: st) h sz k n Q) : Ev E M d pc ls (.int y :: .int x :: st) h sz k n Q := by
  obtain ⟨hd, rfl⟩ := hd
  subst hz
  exact ev_pure (fun hx hb _ kw => lv_ishl hx hb hd kw) kk
theorem ev_ishr {x y z : Int32} (hd : ev_d M pc .ishr 1 pc') (hz : x >>> (y &&& 31) = z) (kk : Ev E M d pc' ls (.int z :: st) h sz k n Q) : Ev E M d pc ls (.int y :: .int x :: st) h sz k n Q := by
  obtain ⟨hd, rfl⟩ := hd
  subst hz
  exact ev_pure (fun hx hb _ kw => lv_ishr hx hb hd kw) kk
theorem ev_lsub {x y z : Int64} (hd : ev_d M pc .lsub 1 pc') (hz : x - y = z) (kk : Ev E M d pc' ls (.long z :: st) h sz k n Q) : Ev E M d pc ls (.long y :: .long x :: st) h sz k n Q := by
  obtain ⟨hd, rfl⟩ := hd
  subst hz
  exact ev_pure (fun hx hb _ kw => lv_lsub hx hb hd kw) kk
theorem ev_addn {x y : Nat} (hd : ev_d M pc .iadd 1 pc') (kk : Ev E M d pc' ls (.int (nI (x + y)) :: st) h sz k n Q) : Ev E M d pc ls (.int (nI y) :: .int (nI x) :: st) h sz k n Q := ev_iadd hd (nI_add x y) kk
theorem ev_i2l {x : Int32} {v : Int64} (hd : ev_d M pc .i2l 1 pc') (hv : x.toInt64 = v) (kk : Ev E M d pc' ls (.long v :: st) h sz k n Q) : Ev E M d pc ls (.int x :: st) h sz k n Q := by
  obtain ⟨hd, rfl⟩ := hd
  exact ev_pure (fun hx hb hL kw => lv_i2l hx hb hd hv kw) kk
theorem ev_dup {a : Value} (hd : ev_d M pc .dup 1 pc') (ha : a.category = 1) (kk : Ev E M d pc' ls (a :: a :: st) h sz k n Q) : Ev E M d pc ls (a :: st) h sz k n Q := by
  obtain ⟨hd, rfl⟩ := hd
  exact ev_pure (fun hx hb hL kw => lv_dup hx hb hd ha kw) kk
theorem ev_pop {a : Value} (hd : ev_d M pc .pop 1 pc') (ha : a.category = 1) (kk : Ev E M d pc' ls st h sz k n Q) : Ev E M d pc ls (a :: st) h sz k n Q := by
  obtain ⟨hd, rfl⟩ := hd
  exact ev_pure (fun hx hb hL kw => lv_pop hx hb hd ha kw) kk
theorem ev_dup2 {a b : Value} (hd : ev_d M pc .dup2 1 pc') (ha : a.category = 1) (hb' : b.category = 1) (kk : Ev E M d pc' ls (a :: b :: a :: b :: st) h sz k n Q) : Ev E M d pc ls (a :: b :: st) h sz k n Q := by
  obtain ⟨hd, rfl⟩ := hd
  exact ev_pure (fun hx hb hL kw => lv_dup2_11 hx hb hd ha hb' kw) kk
theorem ev_dup_x1 {a b : Value} (hd : ev_d M pc .dup_x1 1 pc') (ha : a.category = 1) (hb' : b.category = 1) (kk : Ev E M d pc' ls (a :: b :: a :: st) h sz k n Q) : Ev E M d pc ls (a :: b :: st) h sz k n Q := by
  obtain ⟨hd, rfl⟩ := hd
  exact ev_pure (fun hx hb hL kw => lv_dup_x1 hx hb hd ha hb' kw) kk
theorem ev_goto {off : Int} {tgt : Nat} (hd : ev_d M pc (.goto off) 3 pc') (ht : (pc : Int) + off = (tgt : Int)) (kk : Ev E M d tgt ls st h sz k n Q) : Ev E M d pc ls st h sz k n Q := ev_pure (fun hx hb _ kw => lv_goto hx hb hd.1 ht kw) kk
theorem ev_if_eq {x : Int32} {off : Int} {tgt : Nat} (hd : ev_d M pc (.ifCond .eq off) 3 pc') (ht : (pc : Int) + off = (tgt : Int)) (kt : x = 0 → Ev E M d tgt ls st h sz k n Q) (kf : ¬ (x = 0) → Ev E M d pc' ls st h sz k n Q) : Ev E M d pc ls (.int x :: st) h sz k n Q := by
  obtain ⟨hd, rfl⟩ := hd
  exact ev_br (fun hx hb a b => lv_if_eq hx hb hd ht a b) kt kf
theorem ev_if_eqT {x : Int32} {off : Int} {tgt : Nat} (hd : ev_d M pc (.ifCond .eq off) 3 pc') (ht : (pc : Int) + off = (tgt : Int)) (hp : x = 0) (kt : Ev E M d tgt ls st h sz k n Q) : Ev E M d pc ls (.int x :: st) h sz k n Q := ev_if_eq hd ht (fun _ => kt) (fun q => absurd hp q)
theorem ev_if_eqF {x : Int32} {off : Int} {tgt : Nat} (hd : ev_d M pc (.ifCond .eq off) 3 pc') (ht : (pc : Int) + off = (tgt : Int)) (hp : ¬ (x = 0)) (kf : Ev E M d pc' ls st h sz k n Q) : Ev E M d pc ls (.int x :: st) h sz k n Q := ev_if_eq hd ht (fun q => absurd q hp) (fun _ => kf)
theorem ev_icmp_eq {x y : Int32} {off : Int} {tgt : Nat} (hd : ev_d M pc (.if_icmp .eq off) 3 pc') (ht : (pc : Int) + off = (tgt : Int)) (kt : x = y → Ev E M d tgt ls st h sz k n Q) (kf : ¬ (x = y) → Ev E M d pc' ls st h sz k n Q) : Ev E M d pc ls (.int y :: .int x :: st) h sz k n Q := by
  obtain ⟨hd, rfl⟩ := hd
  exact ev_br (fun hx hb a b => lv_icmp_eq hx hb hd ht a b) kt kf
theorem ev_icmp_eqT {x y : Int32} {off : Int} {tgt : Nat} (hd : ev_d M pc (.if_icmp .eq off) 3 pc') (ht : (pc : Int) + off = (tgt : Int)) (hp : x = y) (kt : Ev E M d tgt ls st h sz k n Q) : Ev E M d pc ls (.int y :: .int x :: st) h sz k n Q := ev_icmp_eq hd ht (fun _ => kt) (fun q => absurd hp q)
theorem ev_icmp_eqF {x y : Int32} {off : Int} {tgt : Nat} (hd : ev_d M pc (.if_icmp .eq off) 3 pc') (ht : (pc : Int) + off = (tgt : Int)) (hp : ¬ (x = y)) (kf : Ev E M d pc' ls st h sz k n Q) : Ev E M d pc ls (.int y :: .int x :: st) h sz k n Q := ev_icmp_eq hd ht (fun q => absurd q hp) (fun _ => kf)
theorem ev_if_ne {x : Int32} {off : Int} {tgt : Nat} (hd : ev_d M pc (.ifCond .ne off) 3 pc') (ht : (pc : Int) + off = (tgt : Int)) (kt : ¬ x = 0 → Ev E M d tgt ls st h sz k n Q) (kf : x = 0 → Ev E M d pc' ls st h sz k n Q) : Ev E M d pc ls (.int x :: st) h sz k n Q := by
  obtain ⟨hd, rfl⟩ := hd
  exact ev_br (fun hx hb a b => lv_if_ne hx hb hd ht a (fun q => b (fun z => z q))) kt (fun q => kf (Classical.not_not.mp q))
theorem ev_if_neT {x : Int32} {off : Int} {tgt : Nat} (hd : ev_d M pc (.ifCond .ne off) 3 pc') (ht : (pc : Int) + off = (tgt : Int)) (hp : ¬ x = 0) (kt : Ev E M d tgt ls st h sz k n Q) : Ev E M d pc ls (.int x :: st) h sz k n Q := ev_if_ne hd ht (fun _ => kt) (fun q => absurd q hp)
theorem ev_if_neF {x : Int32} {off : Int} {tgt : Nat} (hd : ev_d M pc (.ifCond .ne off) 3 pc') (ht : (pc : Int) + off = (tgt : Int)) (hp : x = 0) (kf : Ev E M d pc' ls st h sz k n Q) : Ev E M d pc ls (.int x :: st) h sz k n Q := ev_if_ne hd ht (fun q => absurd hp q) (fun _ => kf)
theorem ev_icmp_ne {x y : Int32} {off : Int} {tgt : Nat} (hd : ev_d M pc (.if_icmp .ne off) 3 pc') (ht : (pc : Int) + off = (tgt : Int)) (kt : ¬ x = y → Ev E M d tgt ls st h sz k n Q) (kf : x = y → Ev E M d pc' ls st h sz k n Q) : Ev E M d pc ls (.int y :: .int x :: st) h sz k n Q := by
  obtain ⟨hd, rfl⟩ := hd
  exact ev_br (fun hx hb a b => lv_icmp_ne hx hb hd ht a (fun q => b (fun z => z q))) kt (fun q => kf (Classical.not_not.mp q))
theorem ev_icmp_neT {x y : Int32} {off : Int} {tgt : Nat} (hd : ev_d M pc (.if_icmp .ne off) 3 pc') (ht : (pc : Int) + off = (tgt : Int)) (hp : ¬ x = y) (kt : Ev E M d tgt ls st h sz k n Q) : Ev E M d pc ls (.int y :: .int x :: st) h sz k n Q := ev_icmp_ne hd ht (fun _ => kt) (fun q => absurd q hp)
theorem ev_icmp_neF {x y : Int32} {off : Int} {tgt : Nat} (hd : ev_d M pc (.if_icmp .ne off) 3 pc') (ht : (pc : Int) + off = (tgt : Int)) (hp : x = y) (kf : Ev E M d pc' ls st h sz k n Q) : Ev E M d pc ls (.int y :: .int x :: st) h sz k n Q := ev_icmp_ne hd ht (fun q => absurd hp q) (fun _ => kf)
theorem ev_if_lt {x : Int32} {off : Int} {tgt : Nat} (hd : ev_d M pc (.ifCond .lt off) 3 pc') (ht : (pc : Int) + off = (tgt : Int)) (kt : x < 0 → Ev E M d tgt ls st h sz k n Q) (kf : ¬ (x < 0) → Ev E M d pc' ls st h sz k n Q) : Ev E M d pc ls (.int x :: st) h sz k n Q := by
  obtain ⟨hd, rfl⟩ := hd
  exact ev_br (fun hx hb a b => lv_if_lt hx hb hd ht a b) kt kf
theorem ev_if_ltT {x : Int32} {off : Int} {tgt : Nat} (hd : ev_d M pc (.ifCond .lt off) 3 pc') (ht : (pc : Int) + off = (tgt : Int)) (hp : x < 0) (kt : Ev E M d tgt ls st h sz k n Q) : Ev E M d pc ls (.int x :: st) h sz k n Q := ev_if_lt hd ht (fun _ => kt) (fun q => absurd hp q)
theorem ev_if_ltF {x : Int32} {off : Int} {tgt : Nat} (hd : ev_d M pc (.ifCond .lt off) 3 pc') (ht : (pc : Int) + off = (tgt : Int)) (hp : ¬ (x < 0)) (kf : Ev E M d pc' ls st h sz k n Q) : Ev E M d pc ls (.int x :: st) h sz k n Q := ev_if_lt hd ht (fun q => absurd q hp) (fun _ => kf)
theorem ev_icmp_lt {x y : Int32} {off : Int} {tgt : Nat} (hd : ev_d M pc (.if_icmp .lt off) 3 pc') (ht : (pc : Int) + off = (tgt : Int)) (kt : x < y → Ev E M d tgt ls st h sz k n Q) (kf : ¬ (x < y) → Ev E M d pc' ls st h sz k n Q) : Ev E M d pc ls (.int y :: .int x :: st) h sz k n Q := by
  obtain ⟨hd, rfl⟩ := hd
  exact ev_br (fun hx hb a b => lv_icmp_lt hx hb hd ht a b) kt kf
theorem ev_icmp_ltT {x y : Int32} {off : Int} {tgt : Nat} (hd : ev_d M pc (.if_icmp .lt off) 3 pc') (ht : (pc : Int) + off = (tgt : Int)) (hp : x < y) (kt : Ev E M d tgt ls st h sz k n Q) : Ev E M d pc ls (.int y :: .int x :: st) h sz k n Q := ev_icmp_lt hd ht (fun _ => kt) (fun q => absurd hp q)
theorem ev_icmp_ltF {x y : Int32} {off : Int} {tgt : Nat} (hd : ev_d M pc (.if_icmp .lt off) 3 pc') (ht : (pc : Int) + off = (tgt : Int)) (hp : ¬ (x < y)) (kf : Ev E M d pc' ls st h sz k n Q) : Ev E M d pc ls (.int y :: .int x :: st) h sz k n Q := ev_icmp_lt hd ht (fun q => absurd q hp) (fun _ => kf)
theorem ev_if_ge {x : Int32} {off : Int} {tgt : Nat} (hd : ev_d M pc (.ifCond .ge off) 3 pc') (ht : (pc : Int) + off = (tgt : Int)) (kt : 0 ≤ x → Ev E M d tgt ls st h sz k n Q) (kf : ¬ (0 ≤ x) → Ev E M d pc' ls st h sz k n Q) : Ev E M d pc ls (.int x :: st) h sz k n Q := by
  obtain ⟨hd, rfl⟩ := hd
  exact ev_br (fun hx hb a b => lv_if_ge hx hb hd ht a b) kt kf
theorem ev_if_geT {x : Int32} {off : Int} {tgt : Nat} (hd : ev_d M pc (.ifCond .ge off) 3 pc') (ht : (pc : Int) + off = (tgt : Int)) (hp : 0 ≤ x) (kt : Ev E M d tgt ls st h sz k n Q) : Ev E M d pc ls (.int x :: st) h sz k n Q := ev_if_ge hd ht (fun _ => kt) (fun q => absurd hp q)
theorem ev_if_geF {x : Int32} {off : Int} {tgt : Nat} (hd : ev_d M pc (.ifCond .ge off) 3 pc') (ht : (pc : Int) + off = (tgt : Int)) (hp : ¬ (0 ≤ x)) (kf : Ev E M d pc' ls st h sz k n Q) : Ev E M d pc ls (.int x :: st) h sz k n Q := ev_if_ge hd ht (fun q => absurd q hp) (fun _ => kf)
theorem ev_icmp_ge {x y : Int32} {off : Int} {tgt : Nat} (hd : ev_d M pc (.if_icmp .ge off) 3 pc') (ht : (pc : Int) + off = (tgt : Int)) (kt : y ≤ x → Ev E M d tgt ls st h sz k n Q) (kf : ¬ (y ≤ x) → Ev E M d pc' ls st h sz k n Q) : Ev E M d pc ls (.int y :: .int x :: st) h sz k n Q := by
  obtain ⟨hd, rfl⟩ := hd
  exact ev_br (fun hx hb a b => lv_icmp_ge hx hb hd ht a b) kt kf
theorem ev_icmp_geT {x y : Int32} {off : Int} {tgt : Nat} (hd : ev_d M pc (.if_icmp .ge off) 3 pc') (ht : (pc : Int) + off = (tgt : Int)) (hp : y ≤ x) (kt : Ev E M d tgt ls st h sz k n Q) : Ev E M d pc ls (.int y :: .int x :: st) h sz k n Q := ev_icmp_ge hd ht (fun _ => kt) (fun q => absurd hp q)
theorem ev_icmp_geF {x y : Int32} {off : Int} {tgt : Nat} (hd : ev_d M pc (.if_icmp .ge off) 3 pc') (ht : (pc : Int) + off = (tgt : Int)) (hp : ¬ (y ≤ x)) (kf : Ev E M d pc' ls st h sz k n Q) : Ev E M d pc ls (.int y :: .int x :: st) h sz k n Q := ev_icmp_ge hd ht (fun q => absurd q hp) (fun _ => kf)
theorem ev_if_gt {x : Int32} {off : Int} {tgt : Nat} (hd : ev_d M pc (.ifCond .gt off) 3 pc') (ht : (pc : Int) + off = (tgt : Int)) (kt : 0 < x → Ev E M d tgt ls st h sz k n Q) (kf : ¬ (0 < x) → Ev E M d pc' ls st h sz k n Q) : Ev E M d pc ls (.int x :: st) h sz k n Q := by
  obtain ⟨hd, rfl⟩ := hd
  exact ev_br (fun hx hb a b => lv_if_gt hx hb hd ht a b) kt kf
theorem ev_if_gtT {x : Int32} {off : Int} {tgt : Nat} (hd : ev_d M pc (.ifCond .gt off) 3 pc') (ht : (pc : Int) + off = (tgt : Int)) (hp : 0 < x) (kt : Ev E M d tgt ls st h sz k n Q) : Ev E M d pc ls (.int x :: st) h sz k n Q := ev_if_gt hd ht (fun _ => kt) (fun q => absurd hp q)
theorem ev_if_gtF {x : Int32} {off : Int} {tgt : Nat} (hd : ev_d M pc (.ifCond .gt off) 3 pc') (ht : (pc : Int) + off = (tgt : Int)) (hp : ¬ (0 < x)) (kf : Ev E M d pc' ls st h sz k n Q) : Ev E M d pc ls (.int x :: st) h sz k n Q := ev_if_gt hd ht (fun q => absurd q hp) (fun _ => kf)
theorem ev_icmp_gt {x y : Int32} {off : Int} {tgt : Nat} (hd : ev_d M pc (.if_icmp .gt off) 3 pc') (ht : (pc : Int) + off = (tgt : Int)) (kt : y < x → Ev E M d tgt ls st h sz k n Q) (kf : ¬ (y < x) → Ev E M d pc' ls st h sz k n Q) : Ev E M d pc ls (.int y :: .int x :: st) h sz k n Q := by
  obtain ⟨hd, rfl⟩ := hd
  exact ev_br (fun hx hb a b => lv_icmp_gt hx hb hd ht a b) kt kf
theorem ev_icmp_gtT {x y : Int32} {off : Int} {tgt : Nat} (hd : ev_d M pc (.if_icmp .gt off) 3 pc') (ht : (pc : Int) + off = (tgt : Int)) (hp : y < x) (kt : Ev E M d tgt ls st h sz k n Q) : Ev E M d pc ls (.int y :: .int x :: st) h sz k n Q := ev_icmp_gt hd ht (fun _ => kt) (fun q => absurd hp q)
theorem ev_icmp_gtF {x y : Int32} {off : Int} {tgt : Nat} (hd : ev_d M pc (.if_icmp .gt off) 3 pc') (ht : (pc : Int) + off = (tgt : Int)) (hp : ¬ (y < x)) (kf : Ev E M d pc' ls st h sz k n Q) : Ev E M d pc ls (.int y :: .int x :: st) h sz k n Q := ev_icmp_gt hd ht (fun q => absurd q hp) (fun _ => kf)
theorem ev_if_le {x : Int32} {off : Int} {tgt : Nat} (hd : ev_d M pc (.ifCond .le off) 3 pc') (ht : (pc : Int) + off = (tgt : Int)) (kt : x ≤ 0 → Ev E M d tgt ls st h sz k n Q) (kf : ¬ (x ≤ 0) → Ev E M d pc' ls st h sz k n Q) : Ev E M d pc ls (.int x :: st) h sz k n Q := by
  obtain ⟨hd, rfl⟩ := hd
  exact ev_br (fun hx hb a b => lv_if_le hx hb hd ht a b) kt kf
theorem ev_if_leT {x : Int32} {off : Int} {tgt : Nat} (hd : ev_d M pc (.ifCond .le off) 3 pc') (ht : (pc : Int) + off = (tgt : Int)) (hp : x ≤ 0) (kt : Ev E M d tgt ls st h sz k n Q) : Ev E M d pc ls (.int x :: st) h sz k n Q := ev_if_le hd ht (fun _ => kt) (fun q => absurd hp q)
theorem ev_if_leF {x : Int32} {off : Int} {tgt : Nat} (hd : ev_d M pc (.ifCond .le off) 3 pc') (ht : (pc : Int) + off = (tgt : Int)) (hp : ¬ (x ≤ 0)) (kf : Ev E M d pc' ls st h sz k n Q) : Ev E M d pc ls (.int x :: st) h sz k n Q := ev_if_le hd ht (fun q => absurd q hp) (fun _ => kf)
theorem ev_icmp_le {x y : Int32} {off : Int} {tgt : Nat} (hd : ev_d M pc (.if_icmp .le off) 3 pc') (ht : (pc : Int) + off = (tgt : Int)) (kt : x ≤ y → Ev E M d tgt ls st h sz k n Q) (kf : ¬ (x ≤ y) → Ev E M d pc' ls st h sz k n Q) : Ev E M d pc ls (.int y :: .int x :: st) h sz k n Q := by
  obtain ⟨hd, rfl⟩ := hd
  exact ev_br (fun hx hb a b => lv_icmp_le hx hb hd ht a b) kt kf
theorem ev_icmp_leT {x y : Int32} {off : Int} {tgt : Nat} (hd : ev_d M pc (.if_icmp .le off) 3 pc') (ht : (pc : Int) + off = (tgt : Int)) (hp : x ≤ y) (kt : Ev E M d tgt ls st h sz k n Q) : Ev E M d pc ls (.int y :: .int x :: st) h sz k n Q := ev_icmp_le hd ht (fun _ => kt) (fun q => absurd hp q)
theorem ev_icmp_leF {x y : Int32} {off : Int} {tgt : Nat} (hd : ev_d M pc (.if_icmp .le off) 3 pc') (ht : (pc : Int) + off = (tgt : Int)) (hp : ¬ (x ≤ y)) (kf : Ev E M d pc' ls st h sz k n Q) : Ev E M d pc ls (.int y :: .int x :: st) h sz k n Q := ev_icmp_le hd ht (fun q => absurd q hp) (fun _ => kf)
theorem ev_ifnull_r {x : Nat} {off : Int} (hd : ev_d M pc (.ifnull off) 3 pc') (kk : Ev E M d pc' ls st h sz k n Q) : Ev E M d pc ls (.ref x :: st) h sz k n Q := by
  obtain ⟨hd, rfl⟩ := hd
  exact ev_pure (fun hx hb _ kw => lv_ifnull hx hb hd kw) kk
theorem ev_ifnull_n {off : Int} {tgt : Nat} (hd : ev_d M pc (.ifnull off) 3 pc') (ht : (pc : Int) + off = (tgt : Int)) (kk : Ev E M d tgt ls st h sz k n Q) : Ev E M d pc ls (.null :: st) h sz k n Q := ev_pure (fun hx hb _ kw => lv_ifnullN hx hb hd.1 ht kw) kk
theorem ev_ifnonnull_r {x : Nat} {off : Int} {tgt : Nat} (hd : ev_d M pc (.ifnonnull off) 3 pc') (ht : (pc : Int) + off = (tgt : Int)) (kk : Ev E M d tgt ls st h sz k n Q) : Ev E M d pc ls (.ref x :: st) h sz k n Q := ev_pure (fun hx hb _ kw => lv_ifnonnull hx hb hd.1 ht kw) kk
theorem ev_ifnonnull_n {off : Int} (hd : ev_d M pc (.ifnonnull off) 3 pc') (kk : Ev E M d pc' ls st h sz k n Q) : Ev E M d pc ls (.null :: st) h sz k n Q := by
  obtain ⟨hd, rfl⟩ := hd
  exact ev_pure (fun hx hb _ kw => lv_ifnonnullN hx hb hd kw) kk
end EVF
end
section
/-! Ev: fields, arrays, new. -/
theorem ev_gdO {C : String} : ev_gd (.arrayOver (.object C)) := fun _ _ _ _ hW h1 => va_AO.use (va_AO.moved hW.alike (va_AO.of h1))
theorem ev_R_up {E : ev_E} {h : ev_h} {sz : Nat} {H H' : Heap} {locs : List Loc} {a i : Nat} {x x' : va_E} (hR : ev_R E h sz H locs) (ha : h a = some x) (hx : va_at E.2.1 ev_cl (a, x') H') (hz : H'.size = H.size) (ho : ∀ q, q ≠ a → H'[q]? = H[q]?) : ev_R E (ev_up h a x') sz H' (locs ++ [⟨a, i⟩]) := by
  obtain ⟨r1, r2, r3, r4, r5, r6⟩ := hR
  have hb := r4 a x ha
  refine ⟨fun q y hq => ?_, hz.trans r2, r3, fun q y hq => ?_, fun q hq => ?_, fun y hy => ?_⟩
  · by_cases hqa : q = a
    · subst hqa
      rw [ev_up_s] at hq
      cases hq
      exact hx
    · rw [ev_up_n hqa] at hq
      exact (r1 q y hq).kept (ho q hqa)
  · by_cases hqa : q = a
    · subst hqa; exact hb
    · rw [ev_up_n hqa] at hq
      exact r4 q y hq
  · rw [ho q (by omega)]
    exact r5 q hq
  · rcases List.mem_append.mp hy with h1 | h1
    · exact r6 y h1
    · rw [List.mem_singleton] at h1
      subst h1
      exact hb
theorem ev_R_new {E : ev_E} {h : ev_h} {sz : Nat} {H H' : Heap} {locs : List Loc} {x' : va_E} (hR : ev_R E h sz H locs) (hx : va_at E.2.1 ev_cl (sz, x') H') (hz : H'.size = sz + 1) (ho : ∀ q, q < sz → H'[q]? = H[q]?) : ev_R E (ev_up h sz x') (sz + 1) H' locs := by
  obtain ⟨r1, r2, r3, r4, r5, r6⟩ := hR
  refine ⟨fun q y hq => ?_, hz, by omega, fun q y hq => ?_, fun q hq => ?_, r6⟩
  · by_cases hqa : q = sz
    · subst hqa
      rw [ev_up_s] at hq
      cases hq
      exact hx
    · rw [ev_up_n hqa] at hq
      have hl : q < H.size := (r1 q y hq).lt
      exact (r1 q y hq).kept (ho q (by rw [← r2]; exact hl))
  · by_cases hqa : q = sz
    · omega
    · rw [ev_up_n hqa] at hq
      exact r4 q y hq
  · rw [ho q (by omega)]
    exact r5 q hq
/-- a cell of the heap, as a world of one cell -/
theorem ev_P1 {D : va_G} {a : Nat} {x : va_E} {H : Heap} (hx : va_at D ev_cl (a, x) H) : va_P D ev_cl [(a, x)] H := fun j q hj => by
  cases j with
  | zero => cases hj; exact hx
  | succ j => simp at hj
/-- what the tables say of a class of the list -/
def ev_good (C : String) (T : u_T) (N : Nat) : Prop := (∀ w ∈ u_ws C T N, w ∈ lw_tbl) ∧ (∃ ty : Nat → FieldType, ∀ k, k < N → parseFieldDescriptor (T k).2.2.1 = some (ty k)) ∧ ∀ a, a < N → ∀ b, b < N → a ≠ b → (T a).2.1 ≠ (T b).2.1
theorem ev_lays {E : ev_E} {M : ev_M} {p : Program} {s : State} {m : MethodId} {meth : Method} {c : Code} (hC : ev_C E M p s m meth c) {C : String} {T : u_T} {N : Nat} (hin : ∀ w ∈ u_ws C T N, w ∈ lw_tbl) (w : Cond) (hw : w ∈ u_ws C T N) (args : Array Value) : w.before args s = true := by
  refine hC.w (hin w hw) ?_ args
  obtain ⟨k, -, rfl⟩ := List.mem_map.mp hw
  exact ev_gdL
/-- a field's site in class own: the field is number k0 of the class number ci -/
def ev_gs (own : String) (index ci k0 : Nat) : Prop := ∃ (ref C : String) (T : u_T) (N : Nat), ev_good C T N ∧ Cond.fieldLink own index ref (T k0).2.1 (T k0).2.2.1 ∈ lw_tbl ∧ (ref = (T k0).1 ∨ Cond.sameField ref (T k0).1 (T k0).2.1 (T k0).2.2.1 ∈ lw_tbl) ∧ ev_cl[ci]? = some (C, T, N) ∧ k0 < N
/-- the same, with the field's type; whether it is final (then: own, and only in a constructor) -/
def ev_ps (own mname : String) (index ci k0 : Nat) (ty : FieldType) : Prop := ∃ (ref C : String) (T : u_T) (N : Nat), ev_good C T N ∧ Cond.fieldLink own index ref (T k0).2.1 (T k0).2.2.1 ∈ lw_tbl ∧ (ref = (T k0).1 ∨ Cond.sameField ref (T k0).1 (T k0).2.1 (T k0).2.2.1 ∈ lw_tbl) ∧ ev_cl[ci]? = some (C, T, N) ∧ k0 < N ∧
  parseFieldDescriptor (T k0).2.2.1 = some ty ∧ ((T k0).2.2.2 = false ∨ ((T k0).2.2.2 = true ∧ mname = "<init>" ∧ (T k0).1 = own))
theorem ev_same {s : State} {args : Array Value} {ref : String} {t : String × String × String × Bool} (h : ref = t.1 ∨ (Cond.sameField ref t.1 t.2.1 t.2.2.1).before args s = true) : ∀ x, s.fieldFound? t.1 t.2.1 t.2.2.1 = some x → s.fieldFound? ref t.2.1 t.2.2.1 = some x := by
  rcases h with rfl | h
  · exact fun x hx => hx
  · exact u_same h
section EVH
variable {E : ev_E} {M : ev_M} {d pc pc' : Nat} {ls : List (Option Value)} {st : List Value} {h : ev_h} {sz k n : Nat} {Q : ev_Q}
theorem ev_get {index a ci k0 : Nat} {fs : List Value} {v : Value} (hd : ev_d M pc (.getfield index) 3 pc') (hs : ev_gs M.1.cls index ci k0) (he : h a = some (oB ci fs)) (hv : fs[k0]? = some v)
    (kk : Ev E M d pc' ls (v :: st) h sz k n Q) : Ev E M d pc ls (.ref a :: st) h sz k n Q := by
  obtain ⟨hd, rfl⟩ := hd
  obtain ⟨ref, C, T, N, hgood, hlk, hsm, hc, hk⟩ := hs
  intro p e R s m args below meth c H locs cells slots lsr hC hR hL h1 h2 h3 h4
  have kw := kk p e R s m args below meth c H locs cells slots lsr hC hR hL h1 h2 h3 h4
  exact va_get (ws := [(a, .inr (ci, fs))]) (Ts := u_ws C T N) hC.ex hC.cd (fun w hw => ev_lays hC hgood.1 w hw args) (fun w hw => hw) hC.ow hC.K (ev_P1 (hR.1 a _ he)) 0 rfl hc k0 hk (hC.w hlk (ev_gdT rfl) args)
    (ev_same (args := args) (hsm.imp id fun q => hC.w q (ev_gdT rfl) args)) hv hd kw
theorem ev_put {index a ci k0 : Nat} {fs : List Value} {v : Value} {ty : FieldType} (fs' : List Value) (hd : ev_d M pc (.putfield index) 3 pc') (hs : ev_ps M.1.cls M.1.name index ci k0 ty) (he : h a = some (oB ci fs)) (hn : narrow ty v = v) (hfit : fits ty v = true) (hl : Nat.ble (k0 + 1) fs.length = true) (hset : fs.set k0 v = fs')
    (kk : Ev E M d pc' ls st (ev_up h a (oB ci fs')) sz k n Q) : Ev E M d pc ls (v :: .ref a :: st) h sz k n Q := by
  obtain ⟨hd, rfl⟩ := hd
  replace hl : k0 < fs.length := Nat.le_of_ble_eq_true hl
  subst hset
  obtain ⟨ref, C, T, N, hgood, hlk, hsm, hc, hk, hty, hfin⟩ := hs
  obtain ⟨hin, ⟨ty0, hty0⟩, hnm⟩ := hgood
  intro p e R s m args below meth c H locs cells slots lsr hC hR hL h1 h2 h3 h4
  have hts : ∀ w ∈ u_ws C T N, w.before args s = true := fun w hw => ev_lays hC hin w hw args
  have hap := va_apart (own := M.1.cls) (D := E.2.1) hts (fun w hw => hw) ty0 hty0 hnm hC.K hc
  obtain ⟨r, g1, cell, q1, q2, q3, q4⟩ := hR.1 a _ he
  have hr : r = (C, T, N) := Option.some.inj (g1.symm.trans hc)
  subst hr
  obtain ⟨hS, hfc, kC, hkC, hkind⟩ := hC.K.1 ci _ hc
  obtain ⟨cf, kf, fi, f, hi, hsl⟩ := hS k0 hk
  have hlay := hts _ (u_in_lay hk)
  have hst := (u_facts hfc hkC (u_lays hts (fun w hw => hw) hk) hi).1
  have hlink := hC.w hlk (ev_gdT rfl) args
  have hsame := ev_same (args := args) (hsm.imp id fun q => hC.w q (ev_gdT rfl) args) _ hi
  unfold u_lay at hlay
  rcases hfin with hfin | ⟨hfin, hini, hdecl⟩
  · rw [if_neg (by rw [hfin]; decide)] at hlay
    have h6 := u_store hfc hkC hkind hlay hi hty hn hfit
    refine W.putK hC.ex hC.cd (f := f) ⟨hC.ow, hlink, ⟨_, _, _, hsame⟩, hst⟩ (by rw [q2]; exact h6) q1 q3 (by rw [hsl]; exact k2_hasslot (q4 k0 hk)) rfl rfl hd fun H' e1 e2 e3 => ?_
    rw [hsl] at e1 ⊢
    exact kk p e R s m args below meth c H' _ cells slots lsr hC (ev_R_up hR he ⟨_, hc, t_OB.to (V := updV (vp_V fs) k0 v) ⟨_, e1, q2, q3, t_set q4 hap hk v⟩ (fun j _ => vp_updV_set hl v j)⟩ e2 e3) hL h1 h2 h3 h4
  · rw [if_pos hfin] at hlay
    have hcf : m.cls = cf := by
      obtain ⟨_, _, c', _, _, _, -, -, hf', -, -, -, hown2, -⟩ := Cond.laysFinal_spec hlay
      have e1 : c' = cf := by have := hi.symm.trans hf'; simp at this; exact this.1.symm
      rw [hdecl] at hown2
      rw [← e1]; exact Option.some.inj (hC.ow.symm.trans hown2)
    have h6 := u_fits hfc hkC hkind (Or.inr hlay) hi hty hn hfit
    refine W.putFinK hC.ex hC.cd hC.ow hlink hsame hst hcf (hC.nm.trans hini) (by rw [q2]; exact h6) q1 q3 (by rw [hsl]; exact k2_hasslot (q4 k0 hk)) rfl rfl hd fun H' e1 e2 e3 => ?_
    rw [hsl] at e1 ⊢
    exact kk p e R s m args below meth c H' _ cells slots lsr hC (ev_R_up hR he ⟨_, hc, t_OB.to (V := updV (vp_V fs) k0 v) ⟨_, e1, q2, q3, t_set q4 hap hk v⟩ (fun j _ => vp_updV_set hl v j)⟩ e2 e3) hL h1 h2 h3 h4
theorem ev_in {j N : Nat} (hj : j < N) (hN : N ≤ 65536) : vp_in (nI j) N := by
  rintro (h | h)
  · exact nI_pos (by omega) h
  · rw [nI_clamp (by omega)] at h
    omega
theorem ev_iald {a N j : Nat} {f : Nat → Int32} {x : Int32} (hd : ev_d M pc .iaload 1 pc') (he : h a = some (iA E N f)) (hj : j < N) (hN : N ≤ 65536) (hv : f j = x)
    (kk : Ev E M d pc' ls (.int x :: st) h sz k n Q) : Ev E M d pc ls (.int (nI j) :: .ref a :: st) h sz k n Q := by
  obtain ⟨hd, rfl⟩ := hd
  subst hv
  intro p e R s m args below meth c H locs cells slots lsr hC hR hL h1 h2 h3 h4
  have kw := kk p e R s m args below meth c H locs cells slots lsr hC hR hL h1 h2 h3 h4
  have hcl : (nI j).toNatClampNeg = j := nI_clamp (by omega)
  exact va_iald (ws := [(a, .inl (E.2.2.1 0, N, .inl f))]) hC.ex hC.cd hC.K (ev_P1 (hR.1 a _ he)) 0 0 rfl rfl (ev_in hj hN) hd (by rw [hcl]; exact kw)
theorem ev_zald {a N j : Nat} {f : Nat → Int32} {x : Int32} (hd : ev_d M pc .baload 1 pc') (he : h a = some (zA E N f)) (hj : j < N) (hN : N ≤ 65536) (hv : f j = x)
    (kk : Ev E M d pc' ls (.int x :: st) h sz k n Q) : Ev E M d pc ls (.int (nI j) :: .ref a :: st) h sz k n Q := by
  obtain ⟨hd, rfl⟩ := hd
  subst hv
  intro p e R s m args below meth c H locs cells slots lsr hC hR hL h1 h2 h3 h4
  have kw := kk p e R s m args below meth c H locs cells slots lsr hC hR hL h1 h2 h3 h4
  have hcl : (nI j).toNatClampNeg = j := nI_clamp (by omega)
  exact va_zald (ws := [(a, .inl (E.2.2.1 1, N, .inl f))]) hC.ex hC.cd hC.K (ev_P1 (hR.1 a _ he)) 0 1 rfl rfl (ev_in hj hN) hd (by rw [hcl]; exact kw)
theorem ev_lald {a N j : Nat} {f : Nat → Int64} {x : Int64} (hd : ev_d M pc .laload 1 pc') (he : h a = some (lA E N f)) (hj : j < N) (hN : N ≤ 65536) (hv : f j = x)
    (kk : Ev E M d pc' ls (.long x :: st) h sz k n Q) : Ev E M d pc ls (.int (nI j) :: .ref a :: st) h sz k n Q := by
  obtain ⟨hd, rfl⟩ := hd
  subst hv
  intro p e R s m args below meth c H locs cells slots lsr hC hR hL h1 h2 h3 h4
  have kw := kk p e R s m args below meth c H locs cells slots lsr hC hR hL h1 h2 h3 h4
  have hcl : (nI j).toNatClampNeg = j := nI_clamp (by omega)
  exact va_lald (ws := [(a, .inl (E.2.2.1 2, N, .inr (.inl f)))]) hC.ex hC.cd hC.K (ev_P1 (hR.1 a _ he)) 0 2 rfl rfl (ev_in hj hN) hd (by rw [hcl]; exact kw)
/-- of an array of references (t: its number among the array types) -/
theorem ev_aald {a N j t : Nat} {ty : FieldType} {f : Nat → Option Nat} {v : Value} (hd : ev_d M pc .aaload 1 pc') (ht : (ev_tys E.2.2.1)[t]? = some (E.2.2.1 t, ty)) (hty : ty.isReference = true) (he : h a = some (rA E t N f)) (hj : j < N) (hN : N ≤ 65536) (hv : va_rf (f j) = v)
    (kk : Ev E M d pc' ls (v :: st) h sz k n Q) : Ev E M d pc ls (.int (nI j) :: .ref a :: st) h sz k n Q := by
  obtain ⟨hd, rfl⟩ := hd
  subst hv
  intro p e R s m args below meth c H locs cells slots lsr hC hR hL h1 h2 h3 h4
  have kw := kk p e R s m args below meth c H locs cells slots lsr hC hR hL h1 h2 h3 h4
  have hcl : (nI j).toNatClampNeg = j := nI_clamp (by omega)
  exact W.aald (v := va_rf (f j)) (ty := ty) hC.ex hC.cd (hR.1 a _ he) ((hC.K.2 t _ ht).1 N (fun j => va_rf (f j))) hty (fun q => by cases q) (by show ¬ (nI j < 0 ∨ (arrV _ _ _).slots.size ≤ _); rw [arrV_size]; exact ev_in hj hN) (by show (arrV _ _ _).slots[_]? = _; rw [hcl, arrV_read _ _ hj]) rfl rfl hd kw
theorem ev_alen {a t : Nat} {x : vp_A} {ty : FieldType} {v : Int32} (hd : ev_d M pc .arraylength 1 pc') (ht : (ev_tys E.2.2.1)[t]? = some (E.2.2.1 t, ty)) (he : h a = some (.inl (E.2.2.1 t, x))) (hv : nI x.1 = v)
    (kk : Ev E M d pc' ls (.int v :: st) h sz k n Q) : Ev E M d pc ls (.ref a :: st) h sz k n Q := by
  obtain ⟨hd, rfl⟩ := hd
  intro p e R s m args below meth c H locs cells slots lsr hC hR hL h1 h2 h3 h4
  have kw := kk p e R s m args below meth c H locs cells slots lsr hC hR hL h1 h2 h3 h4
  exact va_alen (ws := [(a, .inl (E.2.2.1 t, x))]) hC.ex hC.cd hC.K (ev_P1 (hR.1 a _ he)) 0 t rfl ht hv hd kw
theorem ev_iast {a N j : Nat} {f : Nat → Int32} {x : Int32} (hd : ev_d M pc .iastore 1 pc') (he : h a = some (iA E N f)) (hj : j < N) (hN : N ≤ 65536)
    (kk : Ev E M d pc' ls st (ev_up h a (iA E N (upd f j x))) sz k n Q) : Ev E M d pc ls (.int x :: .int (nI j) :: .ref a :: st) h sz k n Q := by
  obtain ⟨hd, rfl⟩ := hd
  intro p e R s m args below meth c H locs cells slots lsr hC hR hL h1 h2 h3 h4
  have hcl : (nI j).toNatClampNeg = j := nI_clamp (by omega)
  refine W.iast hC.ex hC.cd (hR.1 a _ he) ((hC.K.2 0 _ rfl).1 N (fun j => .int (f j))) (fun q => by cases q) (by show ¬ (nI j < 0 ∨ (arrV _ _ _).slots.size ≤ _); rw [arrV_size]; exact ev_in hj hN) rfl rfl hd fun H1 e1 z oq => ?_
  refine kk p e R s m args below meth c H1 _ cells slots lsr hC (ev_R_up hR he ?_ z oq) hL h1 h2 h3 h4
  show H1[a]? = some (vp_cell _ _)
  rw [e1, hcl, vp_cell_i, vp_cell_i, arrV_store]
  congr 2
  funext q
  by_cases hq : q = j
  · subst hq; simp [updV, upd]
  · simp [updV, upd, hq]
theorem ev_zast {a N j : Nat} {f : Nat → Int32} {x : Int32} (hd : ev_d M pc .bastore 1 pc') (he : h a = some (zA E N f)) (hj : j < N) (hN : N ≤ 65536) (hx : narrow .boolean (.int x) = .int x)
    (kk : Ev E M d pc' ls st (ev_up h a (zA E N (upd f j x))) sz k n Q) : Ev E M d pc ls (.int x :: .int (nI j) :: .ref a :: st) h sz k n Q := by
  obtain ⟨hd, rfl⟩ := hd
  intro p e R s m args below meth c H locs cells slots lsr hC hR hL h1 h2 h3 h4
  have hcl : (nI j).toNatClampNeg = j := nI_clamp (by omega)
  refine W.zast hC.ex hC.cd (hR.1 a _ he) ((hC.K.2 1 _ rfl).1 N (fun j => .int (f j))) (fun q => by cases q) (by show ¬ (nI j < 0 ∨ (arrV _ _ _).slots.size ≤ _); rw [arrV_size]; exact ev_in hj hN) rfl rfl hd fun H1 e1 z oq => ?_
  refine kk p e R s m args below meth c H1 _ cells slots lsr hC (ev_R_up hR he ?_ z oq) hL h1 h2 h3 h4
  show H1[a]? = some (vp_cell _ _)
  rw [e1, hcl, hx, vp_cell_i, vp_cell_i, arrV_store]
  congr 2
  funext q
  by_cases hq : q = j
  · subst hq; simp [updV, upd]
  · simp [updV, upd, hq]
theorem ev_last {a N j : Nat} {f : Nat → Int64} {x : Int64} (hd : ev_d M pc .lastore 1 pc') (he : h a = some (lA E N f)) (hj : j < N) (hN : N ≤ 65536)
    (kk : Ev E M d pc' ls st (ev_up h a (lA E N (vp_updL f j x))) sz k n Q) : Ev E M d pc ls (.long x :: .int (nI j) :: .ref a :: st) h sz k n Q := by
  obtain ⟨hd, rfl⟩ := hd
  intro p e R s m args below meth c H locs cells slots lsr hC hR hL h1 h2 h3 h4
  have hcl : (nI j).toNatClampNeg = j := nI_clamp (by omega)
  refine W.last hC.ex hC.cd (hR.1 a _ he) ((hC.K.2 2 _ rfl).1 N (fun j => .long (f j))) (fun q => by cases q) (by show ¬ (nI j < 0 ∨ (arrV _ _ _).slots.size ≤ _); rw [arrV_size]; exact ev_in hj hN) rfl rfl hd fun H1 e1 z oq => ?_
  refine kk p e R s m args below meth c H1 _ cells slots lsr hC (ev_R_up hR he ?_ z oq) hL h1 h2 h3 h4
  show H1[a]? = some (vp_cell _ _)
  rw [e1, hcl, vp_cell_l, vp_cell_l, arrV_store]
  congr 2
  funext q
  by_cases hq : q = j
  · subst hq; simp [updV, vp_updL]
  · simp [updV, vp_updL, hq]
/-- a reference into an array: cb is the class of the array's elements, castable from the object's -/
theorem ev_aast {a N j t v ci : Nat} {C Cv : String} {Tv : u_T} {Nv : Nat} {fs : List Value} {f : Nat → Option Nat} (hd : ev_d M pc .aastore 1 pc') (ht : (ev_tys E.2.2.1)[t]? = some (E.2.2.1 t, .object C)) (hc : ev_cl[ci]? = some (Cv, Tv, Nv)) (hcast : Cv = C ∨ Cond.castable Cv C ∈ lw_tbl) (he : h a = some (rA E t N f)) (hv : h v = some (oB ci fs)) (hj : j < N) (hN : N ≤ 65536)
    (kk : Ev E M d pc' ls st (ev_up h a (rA E t N (va_up f j (some v)))) sz k n Q) : Ev E M d pc ls (.ref v :: .int (nI j) :: .ref a :: st) h sz k n Q := by
  obtain ⟨hd, rfl⟩ := hd
  intro p e R s m args below meth c H locs cells slots lsr hC hR hL h1 h2 h3 h4
  have hcl : (nI j).toNatClampNeg = j := nI_clamp (by omega)
  obtain ⟨r', hr', cellV, g1, g2, g3, -⟩ := hR.1 v _ hv
  have hcls := (hC.K.1 ci _ hc).2
  obtain ⟨kA, comp, k1, k2, k3, -⟩ := (hC.K.2 t _ ht).2
  obtain ⟨kC, hkC, -⟩ := hcls.2
  have hasg : s.vm.assignable (E.2.1.1 ci) comp = true := by
    rcases hcast with rfl | hcast
    · have hcomp : comp = E.2.1.1 ci := Option.some.inj (k3.symm.trans hcls.1)
      rw [hcomp]
      exact va_assign hcls
    · obtain ⟨c0, t0, f1, f2, f3⟩ := Cond.castable_spec (hC.w hcast ev_gdC args)
      cases hcls.1.symm.trans f1
      cases k3.symm.trans f2
      exact f3
  obtain ⟨kcomp, hkcomp, -⟩ := Vm.findClass_spec k3
  refine W.aast hC.ex hC.cd (hR.1 a _ he) (fun q h => by cases h) (fun h => by cases h) k1 k2 rfl hkcomp ⟨fun q => ev_in hj hN (Or.inl q), by show _ < (arrV _ _ _).slots.size; rw [arrV_size, hcl]; exact hj⟩ g1 (fun q h => by rw [g3] at h; cases h) (by rw [g2]; exact hkC) (by rw [g2]; exact hasg) rfl rfl hd fun H1 e1 z oq => ?_
  refine kk p e R s m args below meth c H1 _ cells slots lsr hC (ev_R_up hR he ?_ z oq) hL h1 h2 h3 h4
  show H1[a]? = some (vp_cell _ _)
  rw [e1, hcl, vp_cell_q, vp_cell_q, arrV_store]
  congr 2
  funext q
  by_cases hq : q = j
  · subst hq; simp [updV, va_up, va_rf]
  · simp [updV, va_up, hq]
/-- a class's site for new -/
def ev_ns (own : String) (index ci N : Nat) (fs : List Value) : Prop := ∃ (C : String) (T : u_T) (ty : Nat → FieldType), ev_good C T N ∧ Cond.classLink own index C ∈ lw_tbl ∧ Cond.instantiable C N ∈ lw_tbl ∧ Cond.initialized C ∈ lw_tbl ∧ ev_cl[ci]? = some (C, T, N) ∧ (∀ k, k < N → parseFieldDescriptor (T k).2.2.1 = some (ty k)) ∧ ∀ j, j < N → defaultValue (ty j) = vp_V fs j
theorem ev_new {index ci N : Nat} {fs : List Value} (hd : ev_d M pc (.new index) 3 pc') (hs : ev_ns M.1.cls index ci N fs)
    (kk : Ev E M d pc' ls (.ref sz :: st) (ev_up h sz (oB ci fs)) (sz + 1) k n Q) : Ev E M d pc ls st h sz (k + 1) (n + N) Q := by
  obtain ⟨hd, rfl⟩ := hd
  obtain ⟨C, T, ty, hgood, hcl, hinst, hini, hc, hty, hfs⟩ := hs
  intro p e R s m args below meth c H locs cells slots lsr hC hR hL h1 h2 h3 h4
  have hts : ∀ w ∈ u_ws C T N, w.before args s = true := fun w hw => ev_lays hC hgood.1 w hw args
  have hKn := hC.K.1 ci _ hc
  have hz : H.size = sz := hR.2.1
  refine W.newcK hC.ex hC.cd hC.ow (hC.w hcl (ev_gdT rfl) args) (hC.w hinst (ev_gdT rfl) args) (hC.w hini (ev_gdT rfl) args) rfl hd (by omega) (by omega) hKn.2.1 hz fun H1 kC hkC e1 z1 o1 => ?_
  exact kk p e R s m args below meth c H1 locs (cells + 1) (slots + N) lsr hC (ev_R_new hR ⟨_, hc, (u_born ty hts (fun w hw => hw) hKn hkC e1 hty).to hfs⟩ z1 o1) hL h1 h2 (by omega) (by omega)
theorem ev_newi {N : Nat} (hd : ev_d M pc (.newarray .int) 2 pc') (hN : N ≤ 65536) (harr : Cond.arrayClass .int ∈ lw_tbl)
    (kk : Ev E M d pc' ls (.ref sz :: st) (ev_up h sz (iA E N (fun _ => nI 0))) (sz + 1) k n Q) : Ev E M d pc ls (.int (nI N) :: st) h sz (k + 1) (n + N) Q := by
  obtain ⟨hd, rfl⟩ := hd
  intro p e R s m args below meth c H locs cells slots lsr hC hR hL h1 h2 h3 h4
  have hz : H.size = sz := hR.2.1
  refine va_newaK hC.ex hC.cd (atype := .int) (hC.w harr ev_gdA args) (g := F0 m pc lsr (.int (nI N) :: st)) rfl hd (n := nI N) (N := N) (rest := st) rfl (nI_pos (by omega)) (nI_clamp (by omega)) (by show N * 4 ≤ _; omega) (by omega) (by omega) hz fun H1 cA e1 z1 o1 hA hfc => ?_
  have hcA : E.2.2.1 0 = cA := Option.some.inj ((show s.vm.findClass "[I" = some (E.2.2.1 0) from (hC.K.2 0 _ rfl).2).symm.trans hfc)
  exact kk p e R s m args below meth c H1 locs (cells + 1) (slots + N) lsr hC (ev_R_new hR (by show H1[sz]? = some (vp_cell _ _); rw [hcA]; exact e1) z1 o1) hL h1 h2 (by omega) (by omega)
theorem ev_newz {N : Nat} (hd : ev_d M pc (.newarray .boolean) 2 pc') (hN : N ≤ 65536) (harr : Cond.arrayClass .boolean ∈ lw_tbl)
    (kk : Ev E M d pc' ls (.ref sz :: st) (ev_up h sz (zA E N (fun _ => nI 0))) (sz + 1) k n Q) : Ev E M d pc ls (.int (nI N) :: st) h sz (k + 1) (n + N) Q := by
  obtain ⟨hd, rfl⟩ := hd
  intro p e R s m args below meth c H locs cells slots lsr hC hR hL h1 h2 h3 h4
  have hz : H.size = sz := hR.2.1
  refine va_newaK hC.ex hC.cd (atype := .boolean) (hC.w harr ev_gdA args) (g := F0 m pc lsr (.int (nI N) :: st)) rfl hd (n := nI N) (N := N) (rest := st) rfl (nI_pos (by omega)) (nI_clamp (by omega)) (by show N * 1 ≤ _; omega) (by omega) (by omega) hz fun H1 cA e1 z1 o1 hA hfc => ?_
  have hcA : E.2.2.1 1 = cA := Option.some.inj ((show s.vm.findClass "[Z" = some (E.2.2.1 1) from (hC.K.2 1 _ rfl).2).symm.trans hfc)
  exact kk p e R s m args below meth c H1 locs (cells + 1) (slots + N) lsr hC (ev_R_new hR (by show H1[sz]? = some (vp_cell _ _); rw [hcA]; exact e1) z1 o1) hL h1 h2 (by omega) (by omega)
theorem ev_newl {N : Nat} (hd : ev_d M pc (.newarray .long) 2 pc') (hN : N ≤ 65536) (harr : Cond.arrayClass .long ∈ lw_tbl)
    (kk : Ev E M d pc' ls (.ref sz :: st) (ev_up h sz (lA E N (fun _ => 0))) (sz + 1) k n Q) : Ev E M d pc ls (.int (nI N) :: st) h sz (k + 1) (n + N) Q := by
  obtain ⟨hd, rfl⟩ := hd
  intro p e R s m args below meth c H locs cells slots lsr hC hR hL h1 h2 h3 h4
  have hz : H.size = sz := hR.2.1
  refine va_newaK hC.ex hC.cd (atype := .long) (hC.w harr ev_gdA args) (g := F0 m pc lsr (.int (nI N) :: st)) rfl hd (n := nI N) (N := N) (rest := st) rfl (nI_pos (by omega)) (nI_clamp (by omega)) (by show N * 8 ≤ _; omega) (by omega) (by omega) hz fun H1 cA e1 z1 o1 hA hfc => ?_
  have hcA : E.2.2.1 2 = cA := Option.some.inj ((show s.vm.findClass "[J" = some (E.2.2.1 2) from (hC.K.2 2 _ rfl).2).symm.trans hfc)
  exact kk p e R s m args below meth c H1 locs (cells + 1) (slots + N) lsr hC (ev_R_new hR (by show H1[sz]? = some (vp_cell _ _); rw [hcA]; exact e1) z1 o1) hL h1 h2 (by omega) (by omega)
theorem ev_anew {N index t : Nat} {C : String} (hd : ev_d M pc (.anewarray index) 3 pc') (ht : (ev_tys E.2.2.1)[t]? = some (E.2.2.1 t, .object C)) (hlk : Cond.classLink M.1.cls index C ∈ lw_tbl) (hov : Cond.arrayOver (.object C) ∈ lw_tbl) (hN : N ≤ 65536)
    (kk : Ev E M d pc' ls (.ref sz :: st) (ev_up h sz (rA E t N (fun _ => none))) (sz + 1) k n Q) : Ev E M d pc ls (.int (nI N) :: st) h sz (k + 1) (n + N) Q := by
  obtain ⟨hd, rfl⟩ := hd
  intro p e R s m args below meth c H locs cells slots lsr hC hR hL h1 h2 h3 h4
  have hcl : (nI N).toNatClampNeg = N := nI_clamp (by omega)
  have hz : H.size = sz := hR.2.1
  refine W.anew hC.ex hC.cd hC.ow (hC.w hlk (ev_gdT rfl) args) (hC.w hov ev_gdO args) (g := F0 m pc lsr (.int (nI N) :: st)) rfl hd rfl (nI_pos (by omega)) (by rw [hcl]; omega) (by omega) (by rw [hcl]; omega) fun cA kA comp g1 g2 g3 g4 => ?_
  obtain ⟨kA', comp', k1, k2, k3, k4⟩ := (hC.K.2 t _ ht).2
  have hcA : E.2.2.1 t = cA := Option.some.inj (k4.symm.trans g1)
  rw [hcl, hz]
  refine kk p e R s m args below meth c _ locs (cells + 1) (slots + N) lsr hC (ev_R_new hR ?_ (by simp [hz]) (fun q hq => by rw [Array.getElem?_push, if_neg (by omega)])) hL h1 h2 (by omega) (by omega)
  show (H.push _)[sz]? = some (vp_cell _ _)
  rw [← hz, hcA, vp_cell_q]
  simp [arrV, va_rf, Array.ext_iff]
end EVH
end
section
/-! Ev: calls, and what goes on behind them. -/
/-- the search for a handler, at the call at pc -/
def Et (E : ev_E) (M : ev_M) (d pc : Nat) (ls : List (Option Value)) (a : Nat) (h : ev_h) (sz k n : Nat) (Q : ev_Q) : Prop :=
  ∀ (p : Program) (e : Env) (R : Room) (s : State) (m : MethodId) (args : Array Value) (below : List Frame) (meth : Method) (c : Code) (T : State) (locs : List Loc) (cells slots : Nat) (lsr : Array Slot) (st : List Value),
    ev_C E M p s m meth c → ev_R E h sz T.heap locs → ev_L M.2.2.1 lsr ls → d ≤ R.frames → d * 64 ≤ R.locals → cells + k ≤ R.cells → slots + n ≤ R.slots → Stand p E.1 e R s m args below meth c T locs cells slots →
    ∃ t, Steps p.tables e below ((T.setTop (F0 m pc lsr st)).pushFrame (.throwing a)) t ∧ ev_Z E s below R Q t
/-- what goes on behind a call at pc: the frame at pc', or the search for a handler -/
def ev_af (E : ev_E) (M : ev_M) (d pc pc' : Nat) (ls : List (Option Value)) (st : List Value) (Q : ev_Q) : ev_Q := fun o h sz k n => match o with
  | .returned v => Ev E M d pc' ls (v.toList ++ st) h sz k n Q
  | .threw a => Et E M d pc ls a h sz k n Q
theorem ev_r0 {E : ev_E} {M : ev_M} {d pc pc' : Nat} {ls : List (Option Value)} {st : List Value} {Q : ev_Q} {h : ev_h} {sz k n : Nat} (kk : Ev E M d pc' ls st h sz k n Q) : ev_af E M d pc pc' ls st Q (.returned none) h sz k n := kk
theorem ev_r1 {E : ev_E} {M : ev_M} {d pc pc' : Nat} {ls : List (Option Value)} {st : List Value} {Q : ev_Q} {h : ev_h} {sz k n : Nat} {v : Value} (kk : Ev E M d pc' ls (v :: st) h sz k n Q) : ev_af E M d pc pc' ls st Q (.returned (some v)) h sz k n := kk
theorem ev_rt {E : ev_E} {M : ev_M} {d pc pc' : Nat} {ls : List (Option Value)} {st : List Value} {Q : ev_Q} {h : ev_h} {sz k n a : Nat} (kk : Et E M d pc ls a h sz k n Q) : ev_af E M d pc pc' ls st Q (.threw a) h sz k n := kk
/-- the locals with which a method begins -/
def ev_ar : List Value → List (Option Value)
  | [] => []
  | v :: vs => if v.category = 2 then some v :: none :: ev_ar vs else some v :: ev_ar vs
theorem ev_weak {tb : Tables} {e : Env} {mid below : List Frame} {a b : State} (h : Steps tb e (mid ++ below) a b) : Steps tb e below a b := by
  obtain ⟨n, hn, w⟩ := h
  exact ⟨n, hn, fun k hk => (w k hk).weaken⟩
theorem ev_args_mem : ∀ (As : List Value) (j i : Nat) (v : Value), (ev_ar As)[i]? = some (some v) → (j + i, v) ∈ lv_args j As
  | [], j, i, v, h => by simp [ev_ar] at h
  | a :: As, j, i, v, h => by
    simp only [ev_ar] at h
    simp only [lv_args]
    split at h
    · rename_i h2
      rw [if_pos h2]
      match i, h with
      | 0, h =>
        simp at h
        subst h
        exact List.mem_cons_self
      | 1, h => simp at h
      | i + 2, h =>
        simp only [List.getElem?_cons_succ] at h
        have := ev_args_mem As (j + 2) i v h
        rw [show j + (i + 2) = j + 2 + i by omega]
        exact List.mem_cons_of_mem _ this
    · rename_i h2
      rw [if_neg h2]
      match i, h with
      | 0, h =>
        simp at h
        subst h
        exact List.mem_cons_self
      | i + 1, h =>
        simp only [List.getElem?_cons_succ] at h
        have := ev_args_mem As (j + 1) i v h
        rw [show j + (i + 1) = j + 1 + i by omega]
        exact List.mem_cons_of_mem _ this
theorem ev_ar_len : ∀ As : List Value, (lg_sl As).length = (ev_ar As).length
  | [] => rfl
  | a :: As => by
    have h := ev_ar_len As
    have e : lg_sl (a :: As) = (if a.category = 2 then [Slot.val a, Slot.second] else [Slot.val a]) ++ lg_sl As := rfl
    rw [e, List.length_append, h]
    simp only [ev_ar]
    split
    · simp; omega
    · simp; omega
/-- into the callee's frame, and out of it -/
theorem ev_enter {E : ev_E} {M M' : ev_M} {d pc pc' : Nat} {ls lk : List (Option Value)} {rest As : List Value} {h : ev_h} {sz k n : Nat} {Q : ev_Q} {p : Program} {e : Env} {R : Room} {s : State} {m : MethodId} {args : Array Value} {below : List Frame} {meth : Method} {c : Code} {T : State} {locs : List Loc} {cells slots : Nat} {lsr : Array Slot}
    (hC : ev_C E M p s m meth c) (hR : ev_R E h sz T.heap locs) (hL : ev_L M.2.2.1 lsr ls) (h1 : d + 1 ≤ R.frames) (h2 : (d + 1) * 64 ≤ R.locals) (h3 : cells + k ≤ R.cells) (h4 : slots + n ≤ R.slots)
    (X : Stand p E.1 e R s m args below meth c T locs cells slots) {ig : Instr} (hdg : decode c.code pc = .ok (ig, 3)) (hpc : pc + 3 = pc') {mk : MethodId} {methk : Method} {ck : Code}
    (hn : s.methodNamed? M'.1 = some mk) (hmk : s.vm.method? mk = some methk) (hck : methk.code = some ck) (e1 : ck.code = M'.2.1) (e2 : ck.maxLocals = M'.2.2.1) (e3 : methk.sig.returnType = M'.2.2.2.1) (e4 : methk.locks = false)
    (e5 : (ck.exceptionTable.toList.map fun x => (x.startPc, x.endPc, x.handlerPc, x.catchType)) = M'.2.2.2.2) (hpl : plainName M'.1.cls = true)
    (hroom : (rest.map fun v => v.category).sum + M'.2.2.1 + 11 ≤ 64) (hlk : ∀ (i : Nat) (v : Value), lk[i]? = some (some v) → (ev_ar As)[i]? = some (some v)) (hlen : (ev_ar As).length ≤ M'.2.2.1)
    (kk : Ev E M' d 0 lk [] h sz k n (ev_af E M (d + 1) pc pc' ls rest Q)) :
    ∃ t, (∀ acts, Steps p.tables e below (doInvoke e (T.setTop (F0 m pc lsr rest)) acts mk As.toArray).1 t) ∧ ev_Z E s below R Q t := by
  have hsize : (F0 m pc lsr rest).locals.size = c.maxLocals := hL.1.trans hC.ml.symm
  have hmkT : T.vm.method? mk = some methk := by rw [X.warmed.alike.method?]; exact hmk
  have hfc : s.vm.findClass M'.1.cls = some mk.cls := findClass_of_methodNamed hn
  have hpk : T.plainMethod mk := by
    intro kx hkx
    refine plain_of_name ?_
    obtain ⟨k0, hk0, hk0n⟩ := className_of_methodNamed hn
    obtain ⟨k1, hk1, he⟩ := X.warmed.alike.2.2 _ _ hk0
    have ek : kx = k1 := Option.some.inj (hkx.symm.trans hk1)
    rw [ek, he]
    show plainName k0.name = true
    rw [hk0n]
    exact hpl
  have hmr : (F0 m pc lsr rest).monitorRoom = 0 := rfl
  obtain ⟨Y₀, hin⟩ := X.into (g := F0 m pc lsr rest) rfl hsize hdg As.toArray (R' := { frames := d, cells := R.cells - cells, slots := R.slots - slots, locals := d * 64 }) hmkT hck e4 hpk h1
    (by show 2 * (F0 m pc lsr rest).monitorRoom + (rest.map fun v => v.category).sum + (ck.maxLocals + 11) + d * 64 ≤ R.locals; rw [hmr, e2]; omega) (by show cells + (R.cells - cells) ≤ R.cells; omega) (by show slots + (R.slots - slots) ≤ R.slots; omega)
  have hWk : E.2.2.2.1.WarmedH (T.calling (F0 m pc lsr rest) mk As.toArray).vm := State.WarmedH.trans hC.wm X.warmed
  have hhk : (T.calling (F0 m pc lsr rest) mk As.toArray).heap = T.heap := rfl
  have hCk : ev_C E M' p (T.calling (F0 m pc lsr rest) mk As.toArray) mk methk ck :=
    ⟨hC.1, hC.ex, e1, e2, e3, e4, e5, by show T.vm.findClass _ = _; rw [X.warmed.alike.findClass]; exact hfc, (name_of_methodNamed hn hmk).1, hWk, fun q hq => by rw [hhk]; exact hR.2.2.2.2.1 q hq, by rw [hhk, hR.2.1]; exact hR.2.2.1⟩
  have hl0 := lv_entry As (n := ck.maxLocals) (by rw [ev_ar_len As, e2]; exact hlen)
  have hef := lg_entry_eq mk As ck.maxLocals
  generalize (lg_sl As ++ List.replicate (ck.maxLocals - (lg_sl As).length) Slot.unset).toArray = lsk at hl0 hef
  have hLk : ev_L M'.2.2.1 lsk lk := by
    refine ⟨hl0.1.trans e2, hl0.2.1, fun i v hi => ?_⟩
    have := hl0.2.2 _ (ev_args_mem As 0 i v (hlk i v hi))
    simpa using this
  obtain ⟨t, hst, o, h', sz', k', n', L, c', n2, hrun, hend, hWm, hsame, hR2, hk', hn', hq⟩ := kk p e { frames := d, cells := R.cells - cells, slots := R.slots - slots, locals := d * 64 } _ mk As.toArray (.java (F0 m pc lsr rest) :: below) methk ck T.heap [] 0 0 lsk hCk ⟨hR.1, hR.2.1, hR.2.2.1, hR.2.2.2.1, hR.2.2.2.2.1, fun x hx => by cases hx⟩ hLk
    (Nat.le_refl _) (Nat.le_refl _) (by show 0 + k ≤ R.cells - cells; omega) (by show 0 + n ≤ R.slots - slots; omega) ((T.setTop (F0 m pc lsr rest)).pushFrame (.java (entryFrame mk As.toArray ck.maxLocals))) rfl Y₀
  have hst' : Steps p.tables e below (((T.setTop (F0 m pc lsr rest)).pushFrame (.java (entryFrame mk As.toArray ck.maxLocals))).setTop (entryFrame mk As.toArray ck.maxLocals)) t := ev_weak (mid := [.java (F0 m pc lsr rest)]) (by rw [hef]; rw [hef] at hst; exact hst)
  have hk2 : c' + k' ≤ R.cells - cells := hk'
  have hn2 : n2 + n' ≤ R.slots - slots := hn'
  cases o with
  | returned v =>
    obtain ⟨T', X', hW', hB', ht⟩ := X.outOf (g := F0 m pc lsr rest) rfl hdg hend hWm hsame
    have hh : T'.heap = t.heap := by rw [ht]; rfl
    obtain ⟨t2, s2, z2⟩ := hq p e R s m args below meth c T'.heap (locs ++ L) (cells + c') (slots + n2) lsr hC
      ⟨by rw [hh]; exact hR2.1, by rw [hh]; exact hR2.2.1, hR2.2.2.1, hR2.2.2.2.1, by rw [hh]; exact hR2.2.2.2.2.1, fun x hx => by rcases List.mem_append.mp hx with hx | hx; exact hR.2.2.2.2.2 x hx; exact hR2.2.2.2.2.2 x hx⟩ hL h1 h2 (by omega) (by omega) T' rfl X'
    refine ⟨t2, fun acts => ?_, z2⟩
    rw [hin acts]
    refine hst'.trans ?_
    rw [ht]
    subst hpc
    exact s2
  | threw x =>
    obtain ⟨T', X', hW', hB', ht⟩ := X.outOfThrown (g := F0 m pc lsr rest) rfl hend hWm hsame
    have hh : T'.heap = t.heap := by rw [ht]; rfl
    obtain ⟨t2, s2, z2⟩ := hq p e R s m args below meth c T' (locs ++ L) (cells + c') (slots + n2) lsr rest hC
      ⟨by rw [hh]; exact hR2.1, by rw [hh]; exact hR2.2.1, hR2.2.2.1, hR2.2.2.2.1, by rw [hh]; exact hR2.2.2.2.2.1, fun x hx => by rcases List.mem_append.mp hx with hx | hx; exact hR.2.2.2.2.2 x hx; exact hR2.2.2.2.2.2 x hx⟩ hL h1 h2 (by omega) (by omega) X'
    refine ⟨t2, fun acts => ?_, z2⟩
    rw [hin acts]
    refine hst'.trans ?_
    rw [ht]
    exact s2
/-- the words of a callee's code -/
def ev_cd (M : ev_M) : Prop := plainName M.1.cls = true ∧ (M.1.cls ≠ "java/lang/invoke/MethodHandle" ∧ M.1.cls ≠ "java/lang/invoke/VarHandle") ∧ ((Cond.code M.1 M.2.1 M.2.2.1 M.2.2.2.1 ∈ lw_tbl ∧ M.2.2.2.2 = []) ∨ Cond.codeWith M.1 M.2.1 M.2.2.1 M.2.2.2.1 M.2.2.2.2 ∈ lw_tbl)
theorem ev_cd_spec {E : ev_E} {M0 M : ev_M} {p : Program} {s : State} {m0 : MethodId} {meth0 : Method} {c0 : Code} (hC : ev_C E M0 p s m0 meth0 c0) (hc : ev_cd M) : ∃ m meth c, s.methodNamed? M.1 = some m ∧ s.vm.method? m = some meth ∧ meth.code = some c ∧ c.code = M.2.1 ∧ c.maxLocals = M.2.2.1 ∧ meth.sig.returnType = M.2.2.2.1 ∧ meth.locks = false ∧ (c.exceptionTable.toList.map fun x => (x.startPc, x.endPc, x.handlerPc, x.catchType)) = M.2.2.2.2 ∧ parseMethodDescriptor M.1.desc = some meth.sig := by
  rcases hc.2.2 with ⟨h1, h2⟩ | h1
  · have hw := hC.w h1 (ev_gdT rfl) #[]
    obtain ⟨m, hn⟩ := Cond.code_named hw
    obtain ⟨meth, c, q1, q2, q3, q4, q5, q6, q7, q8⟩ := Cond.code_spec hn hw
    refine ⟨m, meth, c, hn, q1, q2, q3, q4, q5, q6, ?_, q8⟩
    have h0 : c.exceptionTable.size = 0 := by simpa [Array.isEmpty] using q7
    have h3 : c.exceptionTable.toList = [] := List.eq_nil_of_length_eq_zero (by simpa using h0)
    rw [h2, h3]; rfl
  · have hw := hC.w h1 (ev_gdT rfl) #[]
    obtain ⟨m, meth, c, q0, q1, q2, q3, q4, q5, q6, q7, q8⟩ := Cond.codeWith_spec hw
    exact ⟨m, meth, c, q0, q1, q2, q3, q4, q6, q7, q5, q8⟩
section EVC
variable {E : ev_E} {M M' : ev_M} {d pc pc' : Nat} {ls lk : List (Option Value)} {st rest As : List Value} {h : ev_h} {sz k n : Nat} {Q : ev_Q}
/-- how a callee's first locals are known -/
def ev_lk (As : List Value) (lk : List (Option Value)) (nL : Nat) : Prop := (∀ (i : Nat) (v : Value), lk[i]? = some (some v) → (ev_ar As)[i]? = some (some v)) ∧ (ev_ar As).length ≤ nL
theorem ev_lk_of {As : List Value} {lk : List (Option Value)} {nL j : Nat} (h : ev_ar As ++ List.replicate j none = lk) (hl : Nat.ble (ev_ar As).length nL = true) : ev_lk As lk nL := by
  replace hl := Nat.le_of_ble_eq_true hl
  subst h
  refine ⟨fun i v hi => ?_, hl⟩
  by_cases hlt : i < (ev_ar As).length
  · rwa [List.getElem?_append_left hlt] at hi
  · rw [List.getElem?_append_right (by omega), List.getElem?_replicate] at hi
    split at hi <;> cases hi
def ev_wS (own : String) (index : Nat) (M' : ev_M) : Prop := ev_cd M' ∧ Cond.static M'.1 ∈ lw_tbl ∧ Cond.initialized M'.1.cls ∈ lw_tbl ∧ (Cond.methodLink own index M'.1 ∈ lw_tbl ∨ ∃ host, Cond.methodLinkNest own index M'.1 host ∈ lw_tbl)
def ev_np (M' : ev_M) (j : Nat) : Prop := ∀ sig, parseMethodDescriptor M'.1.desc = some sig → j = sig.parameters.length
theorem ev_np_of {M' : ev_M} {j : Nat} (hh : (parseMethodDescriptor M'.1.desc).map (fun s => s.parameters.length) = some j) : ev_np M' j := by
  intro sig hs
  rw [hs] at hh
  exact (Option.some.inj hh).symm
theorem ev_callS {index : Nat} (hd : ev_d M pc (.invokestatic index) 3 pc') (hw : ev_wS M.1.cls index M') (As : List Value) (hst : st = As.reverse ++ rest) (hn : ev_np M' As.length)
    (hroom : Nat.ble ((rest.map fun v => v.category).sum + M'.2.2.1 + 11) 64 = true) (hlk : ev_lk As lk M'.2.2.1)
    (kk : Ev E M' d 0 lk [] h sz k n (ev_af E M (d + 1) pc pc' ls rest Q)) : Ev E M (d + 1) pc ls st h sz k n Q := by
  intro p e R s m args below meth c H locs cells slots lsr hC hR hL h1 h2 h3 h4 T hT X
  subst hT
  obtain ⟨hd, hpc⟩ := hd
  obtain ⟨mk, methk, ck, q0, q1, q2, q3, q4, q5, q6, q7, q8⟩ := ev_cd_spec hC hw.1
  have hstat : methk.isStatic = true := Cond.static_spec q0 q1 (hC.w hw.2.1 (ev_gdT rfl) args)
  obtain ⟨kP, hkP, -⟩ := className_of_methodNamed q0
  have hinit : kP.init = .initialized := Cond.initialized_spec (findClass_of_methodNamed q0) hkP (hC.w hw.2.2.1 (ev_gdT rfl) args)
  have hdc : decode c.code pc = .ok (.invokestatic index, 3) := by rw [hC.cd]; exact hd
  have go : ∃ vm', Stand p E.1 e R s m args below meth c (T.setVm vm') locs cells slots ∧
      ∀ target, (∀ acts, Steps p.tables e below (doInvoke e ((T.setVm vm').setTop (F0 m pc lsr rest)) acts mk As.toArray).1 target) → Steps p.tables e below (T.setTop (F0 m pc lsr st)) target := by
    rcases hw.2.2.2 with hl | ⟨host, hl⟩
    · exact X.invokestatic hC.ex hC.ow (hC.w hl (ev_gdT rfl) args) q0 q1 hstat hkP hinit hw.1.2.1 (g := F0 m pc lsr st) rfl (argsL := As) (rest := rest) (hn _ q8) hst hdc
    · exact X.invokestaticNest hC.ex hC.ow (hC.w hl ev_gdN args) q0 q1 hstat hkP hinit hw.1.2.1 (g := F0 m pc lsr st) rfl (argsL := As) (rest := rest) (hn _ q8) hst hdc
  obtain ⟨vm', X', st'⟩ := go
  obtain ⟨t, a1, z⟩ := ev_enter (T := T.setVm vm') hC hR hL h1 h2 h3 h4 X' hdc hpc q0 q1 q2 q3 q4 q5 q6 q7 hw.1.1 (Nat.le_of_ble_eq_true hroom) hlk.1 hlk.2 kk
  exact ⟨t, st' t a1, z⟩
/-- a method that the receiver's class has by that very name -/
def ev_wV (own : String) (index ci : Nat) (M' : ev_M) : Prop := ∃ (C : String) (T : u_T) (N : Nat), ev_cl[ci]? = some (C, T, N) ∧ ev_cd M' ∧ Cond.instanceMethod M'.1 ∈ lw_tbl ∧ Cond.selects C M'.1 M'.1 ∈ lw_tbl ∧ (Cond.methodLink own index M'.1 ∈ lw_tbl ∨ ∃ host, Cond.methodLinkNest own index M'.1 host ∈ lw_tbl)
theorem ev_callV {index a ci : Nat} {fs : List Value} (hd : ev_d M pc (.invokevirtual index) 3 pc') (hw : ev_wV M.1.cls index ci M') (he : h a = some (.inr (ci, fs))) (As : List Value) (hst : st = As.reverse ++ .ref a :: rest) (hn : ev_np M' As.length)
    (hroom : Nat.ble ((rest.map fun v => v.category).sum + M'.2.2.1 + 11) 64 = true) (hlk : ev_lk (.ref a :: As) lk M'.2.2.1)
    (kk : Ev E M' d 0 lk [] h sz k n (ev_af E M (d + 1) pc pc' ls rest Q)) : Ev E M (d + 1) pc ls st h sz k n Q := by
  intro p e R s m args below meth c H locs cells slots lsr hC hR hL h1 h2 h3 h4 T hT X
  subst hT
  obtain ⟨hd, hpc⟩ := hd
  obtain ⟨C, TT, NN, hc, hcd, hin, hse, hlink⟩ := hw
  obtain ⟨mk, methk, ck, q0, q1, q2, q3, q4, q5, q6, q7, q8⟩ := ev_cd_spec hC hcd
  obtain ⟨mk', methM, hnamed, hmethM, hstM, habM⟩ := Cond.instanceMethod_spec (hC.w hin (ev_gdT rfl) args)
  cases q0.symm.trans hnamed
  cases q1.symm.trans hmethM
  obtain ⟨cellB, hcell, hobj, hcls⟩ := va_recv hC.K (ev_P1 (hR.1 a _ he)) hc (q0 := 0) rfl
  obtain ⟨c2, r2, m2, g1, g2, g3, g4, kP, hkP, hkPi⟩ := Cond.selects_spec (hC.w hse (ev_gdT rfl) args)
  cases hcls.symm.trans g1
  cases (State.methodFound?_of_named hnamed hcd.2.1).symm.trans g2
  cases hnamed.symm.trans g3
  have hselP : selectMethod e.platform s.vm cellB.cls mk = .method mk := by rw [Launch.admits_selectMethod X.admits]; exact g4
  have hdc : decode c.code pc = .ok (.invokevirtual index, 3) := by rw [hC.cd]; exact hd
  have go : ∃ vm', Stand p E.1 e R s m args below meth c (T.setVm vm') locs cells slots ∧
      ∀ target, (∀ acts, Steps p.tables e below (doInvoke e ((T.setVm vm').setTop (F0 m pc lsr rest)) acts mk (Value.ref a :: As).toArray).1 target) → Steps p.tables e below (T.setTop (F0 m pc lsr st)) target := by
    rcases hlink with hl | ⟨host, hl⟩
    · exact X.invokevirtual hC.ex hC.ow (hC.w hl (ev_gdT rfl) args) hnamed hmethM hstM hkP hkPi hcd.2.1 (a := a) (cell := cellB) hcell (fun z h => by rw [h] at hobj; cases hobj) hselP hmethM habM hkP hkPi (g := F0 m pc lsr st) rfl (argsL := As) (rest := rest) (hn _ q8) hst hdc
    · exact X.invokevirtualNest hC.ex hC.ow (hC.w hl ev_gdN args) hnamed hmethM hstM hkP hkPi hcd.2.1 (a := a) (cell := cellB) hcell (fun z h => by rw [h] at hobj; cases hobj) hselP hmethM habM hkP hkPi (g := F0 m pc lsr st) rfl (argsL := As) (rest := rest) (hn _ q8) hst hdc
  obtain ⟨vm', X', st'⟩ := go
  obtain ⟨t, a1, z⟩ := ev_enter (T := T.setVm vm') (As := Value.ref a :: As) hC hR hL h1 h2 h3 h4 X' hdc hpc q0 q1 q2 q3 q4 q5 q6 q7 hcd.1 (Nat.le_of_ble_eq_true hroom) hlk.1 hlk.2 kk
  exact ⟨t, st' t a1, z⟩
/-- a method that is called by another class's name: x as the site spells it, owner: who declares it -/
def ev_wU (own : String) (index ci : Nat) (x : MethodName) (M' : ev_M) : Prop := ∃ (C owner : String) (T : u_T) (N : Nat), ev_cl[ci]? = some (C, T, N) ∧ ev_cd M' ∧ Cond.instanceMethod M'.1 ∈ lw_tbl ∧ Cond.selects C x M'.1 ∈ lw_tbl ∧ Cond.methodLink own index x ∈ lw_tbl ∧ Cond.sameMethod x.cls owner x.name x.desc ∈ lw_tbl ∧ (Cond.declares ⟨owner, x.name, x.desc⟩ ∈ lw_tbl ∨ (Cond.instanceMethod ⟨owner, x.name, x.desc⟩ ∈ lw_tbl ∧ ∃ bs mL rt, Cond.code ⟨owner, x.name, x.desc⟩ bs mL rt ∈ lw_tbl)) ∧ (owner ≠ "java/lang/invoke/MethodHandle" ∧ owner ≠ "java/lang/invoke/VarHandle")
theorem ev_callU {index a ci : Nat} {x : MethodName} {fs : List Value} (hd : ev_d M pc (.invokevirtual index) 3 pc') (hw : ev_wU M.1.cls index ci x M') (he : h a = some (.inr (ci, fs))) (As : List Value) (hst : st = As.reverse ++ .ref a :: rest) (hn : ∀ sig, parseMethodDescriptor x.desc = some sig → As.length = sig.parameters.length)
    (hroom : Nat.ble ((rest.map fun v => v.category).sum + M'.2.2.1 + 11) 64 = true) (hlk : ev_lk (.ref a :: As) lk M'.2.2.1)
    (kk : Ev E M' d 0 lk [] h sz k n (ev_af E M (d + 1) pc pc' ls rest Q)) : Ev E M (d + 1) pc ls st h sz k n Q := by
  intro p e R s m args below meth c H locs cells slots lsr hC hR hL h1 h2 h3 h4 T hT X
  subst hT
  obtain ⟨hd, hpc⟩ := hd
  obtain ⟨C, owner, TT, NN, hc, hcd, hin, hse, hl, hsame, hdcl, hnot⟩ := hw
  obtain ⟨mk, methk, ck, q0, q1, q2, q3, q4, q5, q6, q7, q8⟩ := ev_cd_spec hC hcd
  obtain ⟨mk', methM, hnamed, hmethM, hstM, habM⟩ := Cond.instanceMethod_spec (hC.w hin (ev_gdT rfl) args)
  cases q0.symm.trans hnamed
  cases q1.symm.trans hmethM
  obtain ⟨r0, r, hn0, hrm, hstR, hsigR⟩ : ∃ m meth, s.methodNamed? ⟨owner, x.name, x.desc⟩ = some m ∧ s.vm.method? m = some meth ∧ meth.isStatic = false ∧ parseMethodDescriptor x.desc = some meth.sig := by
    rcases hdcl with hdcl | ⟨hd1, bs, mL, rt, hd2⟩
    · exact Cond.declares_spec (hC.w hdcl ev_gdD args)
    · obtain ⟨r0, r, a1, a2, a3, -⟩ := Cond.instanceMethod_spec (hC.w hd1 (ev_gdT rfl) args)
      obtain ⟨r', c', b1, b2, b3, b4, b5, b6, b7, b8⟩ := Cond.code_spec a1 (hC.w hd2 (ev_gdT rfl) args)
      cases a2.symm.trans b1
      exact ⟨r0, r, a1, a2, a3, b8⟩
  have hsm := hC.w hsame (ev_gdT rfl) args
  obtain ⟨cn, ck0, r1, hcn, hck0, hni, hf, hn1⟩ := Cond.sameMethod_found hsm
  cases hn0.symm.trans hn1
  obtain ⟨cellB, hcell, hobj, hcls⟩ := va_recv hC.K (ev_P1 (hR.1 a _ he)) hc (q0 := 0) rfl
  obtain ⟨c2, r2, m2, g1, g2, g3, g4, kP, hkP, hkPi⟩ := Cond.selects_spec (hC.w hse (ev_gdT rfl) args)
  cases hcls.symm.trans g1
  cases hf.symm.trans g2
  cases hnamed.symm.trans g3
  have hselP : selectMethod e.platform s.vm cellB.cls r0 = .method mk := by rw [Launch.admits_selectMethod X.admits]; exact g4
  have hdc : decode c.code pc = .ok (.invokevirtual index, 3) := by rw [hC.cd]; exact hd
  obtain ⟨vm', X', st'⟩ := X.invokevirtualUp hC.ex hC.ow (hC.w hl (ev_gdT rfl) args) hsm hnot hn0 hrm hstR (a := a) (cell := cellB) hcell (fun z h => by rw [h] at hobj; cases hobj) hselP hmethM habM hkP hkPi (g := F0 m pc lsr st) rfl (argsL := As) (rest := rest) (hn _ hsigR) hst hdc
  obtain ⟨t, a1, z⟩ := ev_enter (T := T.setVm vm') (As := Value.ref a :: As) hC hR hL h1 h2 h3 h4 X' hdc hpc q0 q1 q2 q3 q4 q5 q6 q7 hcd.1 (Nat.le_of_ble_eq_true hroom) hlk.1 hlk.2 kk
  exact ⟨t, st' t a1, z⟩
/-- a constructor -/
def ev_wI (own : String) (index : Nat) (M' : ev_M) : Prop := ev_cd M' ∧ M'.1.name = "<init>" ∧ M'.2.2.2.1 = none ∧ Cond.instanceMethod M'.1 ∈ lw_tbl ∧ Cond.code M'.1 M'.2.1 M'.2.2.1 M'.2.2.2.1 ∈ lw_tbl ∧ (Cond.methodLink own index M'.1 ∈ lw_tbl ∨ ∃ host, Cond.methodLinkNest own index M'.1 host ∈ lw_tbl)
theorem ev_callI {index a : Nat} (hd : ev_d M pc (.invokespecial index) 3 pc') (hw : ev_wI M.1.cls index M') (As : List Value) (hst : st = As.reverse ++ .ref a :: rest) (hn : ev_np M' As.length)
    (hroom : Nat.ble ((rest.map fun v => v.category).sum + M'.2.2.1 + 11) 64 = true) (hlk : ev_lk (.ref a :: As) lk M'.2.2.1)
    (kk : Ev E M' d 0 lk [] h sz k n (ev_af E M (d + 1) pc pc' ls rest Q)) : Ev E M (d + 1) pc ls st h sz k n Q := by
  intro p e R s m args below meth c H locs cells slots lsr hC hR hL h1 h2 h3 h4 T hT X
  subst hT
  obtain ⟨hd, hpc⟩ := hd
  obtain ⟨hcd, hini, hret, hin, hcode, hlink⟩ := hw
  obtain ⟨mk, methk, ck, q0, q1, q2, q3, q4, q5, q6, q7, q8⟩ := ev_cd_spec hC hcd
  have hpl : e.platform.magicAccessors = ({} : Platform).magicAccessors := by rw [X.admits.platform]
  have hdc : decode c.code pc = .ok (.invokespecial index, 3) := by rw [hC.cd]; exact hd
  have hcode' : (Cond.code M'.1 M'.2.1 M'.2.2.1 none).before args s = true := by rw [← hret]; exact hC.w hcode (ev_gdT rfl) args
  have go : ∃ vm', Stand p E.1 e R s m args below meth c (T.setVm vm') locs cells slots ∧
      ∀ target, (∀ acts, Steps p.tables e below (doInvoke e ((T.setVm vm').setTop (F0 m pc lsr rest)) acts mk (Value.ref a :: As).toArray).1 target) → Steps p.tables e below (T.setTop (F0 m pc lsr st)) target := by
    rcases hlink with hl | ⟨host, hl⟩
    · obtain ⟨mk', methM, cM, kP, vm₁, hnamed, hmethM, hcodeM, -, hlocalsM, -, hkP, -, hW₁, hstep₁⟩ := Steps.initColdArgs (e := e) X.here hC.ex X.warmed hpl hC.ow hini hcd.2.1 (hC.w hl (ev_gdT rfl) args) (hC.w hin (ev_gdT rfl) args) hcode' (f := F0 m pc lsr st) rfl (argsL := As) (rest := rest) hn hst hdc
      cases q0.symm.trans hnamed
      exact ⟨vm₁, X.noted hW₁, hstep₁⟩
    · obtain ⟨mk', methM, cM, kP, vm₁, hnamed, hmethM, hcodeM, -, hlocalsM, -, hkP, -, hW₁, hstep₁⟩ := Steps.initColdArgsNest (e := e) X.here hC.ex X.warmed hpl hC.ow hini hcd.2.1 (hC.w hl ev_gdN args) (hC.w hin (ev_gdT rfl) args) hcode' (f := F0 m pc lsr st) rfl (argsL := As) (rest := rest) hn hst hdc
      cases q0.symm.trans hnamed
      exact ⟨vm₁, X.noted hW₁, hstep₁⟩
  obtain ⟨vm', X', st'⟩ := go
  obtain ⟨t, a1, z⟩ := ev_enter (T := T.setVm vm') (As := Value.ref a :: As) hC hR hL h1 h2 h3 h4 X' hdc hpc q0 q1 q2 q3 q4 q5 q6 q7 hcd.1 (Nat.le_of_ble_eq_true hroom) hlk.1 hlk.2 kk
  exact ⟨t, st' t a1, z⟩
end EVC
end
section
/-! Ev: exceptions: made and thrown, passed on, caught. -/
section RB
variable {p : Program} {l : Launch} {e : Env} {R : Room} {s : State} {m : MethodId} {args : Array Value} {below : List Frame} {meth : Method} {c : Code} {T : State} {locs : List Loc} {cells slots : Nat}
/-- a walk rooted anew at the present state -/
theorem ev_rebase (X : Stand p l e R s m args below meth c T locs cells slots) (hc : cells ≤ R.cells) (hs : slots ≤ R.slots) :
    Stand p l e { frames := R.frames, cells := R.cells - cells, slots := R.slots - slots, locals := R.locals } (T.setFrames (.invoking m args :: below)) m args below meth c T [] 0 0 := by
  obtain ⟨g₀, hfr⟩ := X.frames_eq
  have hcur : T.cur < T.threads.size := State.cur_lt_of_frames hfr
  have hF : (T.setFrames (.invoking m args :: below)).frames = .invoking m args :: below := State.frames_setFrames _ hcur
  have hmeth : (T.setFrames (.invoking m args :: below)).vm.method? m = some meth := X.method'
  obtain ⟨t, ht, -⟩ := State.frames_cons hF
  have hcur' : (T.setFrames (.invoking m args :: below)).cur < (T.setFrames (.invoking m args :: below)).threads.size := State.cur_lt_of_frames hF
  refine ⟨X.admits, X.cas, X.clock, hF, ?_, ?_, hmeth, X.code, X.here, X.tail, State.WarmedH.refl _, by rw [State.stackLimits_setFrames], by rw [State.stackBytes_setFrames], ?_⟩
  · have h := X.room
    have r := State.hasRoom_stack X.room
    have r5 := State.hasRoom_real X.room
    have hz := X.heapSize
    have hu := X.used
    have hk := X.book
    simp only [State.hasRoom, Bool.and_eq_true, decide_eq_true_eq] at h
    rw [State.localsInUse_invoking X.frames X.method X.code] at r r5
    rw [X.frames, List.length_cons] at r
    simp only [State.hasRoom, Bool.and_eq_true, decide_eq_true_eq, hF, State.localsInUse_invoking hF hmeth X.code, List.length_cons, State.stackLimits_setFrames, State.stackBytes_setFrames, X.limits, X.bytes]
    refine ⟨⟨⟨⟨by omega, by omega, by omega, by omega, by omega, h.1.1.1.2.2.2.2.2⟩, ?_⟩, ?_⟩, hk⟩
    · have := h.1.1.2
      show T.heap.size + (R.cells - cells) ≤ _
      omega
    · have := h.1.2
      show T.slotsUsed + (R.slots - slots) ≤ _
      omega
  · have hh := X.hears
    rcases below with _ | ⟨y, r⟩
    · simpa [State.hears, X.warmed.alike.method?] using hh
    · cases y <;> simpa [State.hears, State.code?_eq, X.warmed.alike.method?] using hh
  · have h := (State.sameButNew.refl (T.setFrames (.invoking m args :: below)) ht).setFrames T.frames hcur'
    have e1 : (T.setFrames (.invoking m args :: below)).setFrames T.frames = T := by
      rw [State.setFrames_setFrames]
      obtain ⟨th, hth, -⟩ := State.frames_cons hfr
      exact State.setFrames_self hth
    rw [e1] at h
    exact h
end RB
/-- words of statics: what the heap's old cells say -/
theorem ev_stat_at {s U : State} {A B : Array Value} {C f ds : String} (hW : s.WarmedH U.vm) (hh : ∀ q : Nat, q < s.heap.size → U.heap[q]? = s.heap[q]?) (h : (Cond.isRef (.static C f ds)).before A s = true) : (Cond.isRef (.static C f ds)).before B U = true := by
  have h1 : (Cond.isRef (.static C f ds)).before A (s.setVm U.vm) = true := Cond.before_shiftedFace (State.Shifted.of_warmed hW) _ rfl h
  have hF : (s.setVm U.vm).fieldNamed? C f ds true = U.fieldNamed? C f ds true := rfl
  simp only [Cond.before, Cond.holds, Cond.value, Term.eval, hF] at h1 ⊢
  cases hN : U.fieldNamed? C f ds true with
  | none => simp [hN] at h1
  | some x =>
    obtain ⟨cc, k, slot⟩ := x
    simp only [hN, Option.bind_eq_bind, Option.bind_some] at h1 ⊢
    cases hk : k.statics with
    | none => simp [hk] at h1
    | some a =>
      simp only [hk, Option.bind_some] at h1 ⊢
      have hs : (s.setVm U.vm).heap[a]? = s.heap[a]? := rfl
      rw [hs] at h1
      cases hc : s.heap[a]? with
      | none => simp [hc] at h1
      | some cell =>
        have hlt : a < s.heap.size := (Array.getElem?_eq_some_iff.mp hc).1
        rw [hh a hlt, hc]
        rw [hc] at h1
        exact h1
/-- which words stay true, as a program -/
def ev_gdb (w : Cond) : Bool := (w.onTables && w.keeps) || match w with
  | .declares _ => true
  | .castable _ _ => true
  | _ => false
theorem ev_gdb_ok {w : Cond} (h : ev_gdb w = true) : ev_gd w := by
  unfold ev_gdb at h
  rw [Bool.or_eq_true] at h
  rcases h with h | h
  · exact ev_gdT h
  · split at h
    · exact ev_gdD
    · exact ev_gdC
    · cases h
/-- what a site 'throw new X(text)' asks of the tables -/
def ev_wT (own : String) (ix il ic ci : Nat) (X tx : String) (names : List String) : Prop :=
  (∀ w ∈ Bundle.ownAtoms own ic X names, (w ∈ lw_tbl ∧ ev_gdb w = true) ∨ w ∈ ev_stat) ∧ Cond.classLink own ix X ∈ lw_tbl ∧ Cond.initialized X ∈ lw_tbl ∧ Bundle.fit X = true ∧ (∀ q ∈ names, Bundle.fit q = true) ∧ (own, il, tx) ∈ ev_strs ∧ (∃ T : u_T, ev_cl[ci]? = some (X, T, 0)) ∧ names.length ≤ 3
theorem ev_stat_ok {E : ev_E} {U : State} {args : Array Value} (hE : ev_ok E) (hW : E.2.2.2.1.WarmedH U.vm) (hh : ∀ q : Nat, q < ev_b E → U.heap[q]? = E.2.2.2.1.heap[q]?) {w : Cond} (hw : w ∈ ev_stat) : w.before args U = true := by
  have h := hE.2.2.2.2 w hw
  simp only [ev_stat, List.mem_cons, List.not_mem_nil, or_false] at hw
  rcases hw with rfl | rfl
  · exact ev_stat_at hW hh h
  · exact ev_stat_at hW hh h
/-- a text constant by ldc_w -/
theorem ev_ldcwS {p : Program} {l : Launch} {e : Env} {R : Room} {s : State} {m : MethodId} {args : Array Value} {below : List Frame} {meth : Method} {c : Code} {H : Heap} {locs : List Loc} {cells slots : Nat} {Q : State → Prop} {cc : ByteArray} {pc : Nat} {ls : Array Slot} {rest : List Value}
    (hexec : p.tables.exec = Jvm.exec) (hb : c.code = cc) {own tx : String} {index q : Nat} (hown : s.vm.findClass own = some m.cls) (hZ : vk_R own index tx q s) (hdg : decode cc pc = .ok (.ldc_w index, 3))
    (k : W p l e R s m args below meth c H locs cells slots Q (F0 m (pc + 3) ls (.ref q :: rest))) : W p l e R s m args below meth c H locs cells slots Q (F0 m pc ls rest) := by
  intro T hT X
  obtain ⟨t, a1, b1⟩ := k T hT X
  refine ⟨t, ?_, b1⟩
  obtain ⟨kk, cf, i, a', hk, hcf, hcp, -, hr, hev'⟩ := Cond.stringRef_spec hown hZ.1
  cases hZ.2.symm.trans hev'
  obtain ⟨k', hk', he⟩ := X.warmed.alike.2.2 _ _ hk
  have hr' : k'.resolved[index]? = some (some (.string q)) := by
    rcases X.warmed.entry hk hk' index with h | ⟨h, -⟩
    · rw [h]; exact hr
    · rw [hr] at h; cases h
  jvm_step X.here [hexec, hb, hdg, ldc_w.wp_string (e := e) (s := T) (f := F0 m pc ls rest) X.here.top hk' (by rw [he]; exact hcf) hcp hr']
  exact a1
section EVT
variable {E : ev_E} {M : ev_M} {d pc : Nat} {ls : List (Option Value)} {st : List Value} {h : ev_h} {sz k n : Nat} {Q : ev_Q}
theorem ev_throwG {p1 p2 p3 p4 p5 ix il ic ci LN : Nat} {LI : Instr} {XX tx : String} {names : List String} (hLI : (LI = .ldc il ∧ LN = 2) ∨ (LI = .ldc_w il ∧ LN = 3)) (hd0 : ev_d M pc (.new ix) 3 p1) (hd1 : ev_d M p1 .dup 1 p2) (hd2 : ev_d M p2 LI LN p3) (hd3 : ev_d M p3 (.invokespecial ic) 3 p4) (hd4 : ev_d M p4 .athrow 1 p5)
    (hnone : M.2.2.2.2 = []) (hw : ev_wT M.1.cls ix il ic ci XX tx names) (hst : Nat.ble (st.map fun v => v.category).sum 64 = true) (hq : Q (.threw sz) (ev_up h sz (.inr (ci, []))) (sz + 1) k n) : Ev E M (d + 8) pc ls st h sz (k + 1) (n + 6) Q := by
  intro p e R s m args below meth c H locs cells slots lsr hC hR hL h1 h2 h3 h4 T hT X
  replace hst := Nat.le_of_ble_eq_true hst
  subst hT
  obtain ⟨hd0, rfl⟩ := hd0
  obtain ⟨hd1, rfl⟩ := hd1
  obtain ⟨hd2, hp3⟩ := hd2
  obtain ⟨hd3, rfl⟩ := hd3
  obtain ⟨hd4, -⟩ := hd4
  obtain ⟨hown, hcl, hini, hfit, hnames, hstr, ⟨TX, hci⟩, hlen⟩ := hw
  have hsz : T.heap.size = sz := hR.2.1
  have X0 := ev_rebase X (by omega) (by omega)
  have hWs : E.2.2.2.1.WarmedH T.vm := State.WarmedH.trans hC.wm X.warmed
  have hxt : c.exceptionTable.toList = [] := by
    have := hC.xt
    rw [hnone] at this
    exact List.map_eq_nil_iff.mp this
  have htr : e.platform.stackTraces = false := by rw [X.admits.platform]; exact hC.1.2.2.2.1
  generalize hs' : T.setFrames (.invoking m args :: below) = s' at X0
  have hvm : s'.vm = T.vm := by rw [← hs']; rfl
  have hhp : s'.heap = T.heap := by rw [← hs']; rfl
  have hWs' : E.2.2.2.1.WarmedH s'.vm := by rw [hvm]; exact hWs
  have wd : ∀ w, w ∈ lw_tbl → ev_gd w → w.before args s' = true := fun w hw hg => hg _ _ _ _ hWs' (hC.1.1 w hw)
  have hbz : ∀ q : Nat, q < ev_b E → s'.heap[q]? = E.2.2.2.1.heap[q]? := by rw [hhp]; exact hR.2.2.2.2.1
  have hown' : s'.vm.findClass M.1.cls = some m.cls := by rw [hvm, X.warmed.alike.findClass]; exact hC.ow
  have hatoms : ∀ w ∈ Bundle.ownAtoms M.1.cls ic XX names, w.before args s' = true := fun w hw => by
    rcases hown w hw with ⟨g1, g2⟩ | g1
    · exact wd w g1 (ev_gdb_ok g2)
    · exact ev_stat_ok hC.1 hWs' hbz g1
  obtain ⟨ad, had⟩ := hC.1.2.2.1 _ hstr
  have hZ : vk_R M.1.cls il tx ad s' := vk_R.warm hWs' had
  have hK' : va_K E.2.1 ev_cl (ev_tys E.2.2.1) s' := va_K.moved hWs'.alike hC.1.2.1
  have hcX : s'.vm.findClass XX = some (E.2.1.1 ci) := (hK'.1 ci _ hci).2.1
  have kw : W p E.1 e { frames := R.frames, cells := R.cells - cells, slots := R.slots - slots, locals := R.locals } s' m args below meth c T.heap [] 0 0
      (fun U => U.status = .running ∧ Ended U below (.threw sz) ∧ s'.WarmedH U.vm ∧ s'.sameButNew ({ U with vm := s'.vm } : State) [] 1 6 ∧ ∃ ce : Cell, U.heap[sz]? = some ce ∧ ce.cls = E.2.1.1 ci ∧ ce.vm = .none) (F0 m pc lsr st) := by
    refine W.newcK hC.ex hC.cd hown' (wd _ hcl (ev_gdT rfl)) (hatoms (.instantiable XX 6) (by simp [Bundle.ownAtoms])) (wd _ hini (ev_gdT rfl)) rfl hd0 (by show 0 + 1 ≤ R.cells - cells; omega) (by show 0 + 6 ≤ R.slots - slots; omega) hcX hsz fun H1 kX hkX e1 z1 o1 => ?_
    refine lv_dup hC.ex hC.cd hd1 rfl ?_
    have tail : W p E.1 e { frames := R.frames, cells := R.cells - cells, slots := R.slots - slots, locals := R.locals } s' m args below meth c H1 [] (0 + 1) (0 + 6)
        (fun U => U.status = .running ∧ Ended U below (.threw sz) ∧ s'.WarmedH U.vm ∧ s'.sameButNew ({ U with vm := s'.vm } : State) [] 1 6 ∧ ∃ ce : Cell, U.heap[sz]? = some ce ∧ ce.cls = E.2.1.1 ci ∧ ce.vm = .none) (F0 m p3 lsr (.ref ad :: .ref sz :: .ref sz :: st)) := by
      intro T2 hT2 X2
      obtain ⟨U, hsteps, hrun, hend, hWU, hsame, ce, hce, K⟩ := X2.ctorThrowS hC.ex htr (own := M.1.cls) (cls := XX) (names := names) (ic := ic) hown' hfit hnames hatoms (fun y hy => by cases hy) hcX hkX (a := sz) (by rw [hT2]; exact e1) (by rw [hhp, hsz]; exact Nat.le_refl _) (msg := .ref ad) rfl
        (g := F0 m p3 lsr (.ref ad :: .ref sz :: .ref sz :: st)) rfl (hL.1.trans hC.ml.symm) rfl rfl (rest := st) rfl (by rw [hC.cd]; exact hd3) (by rw [hC.cd]; exact hd4) (fun x hx => by rw [hxt] at hx; cases hx) (by show names.length + 3 < R.frames; omega)
        (by show 2 * 0 + (1 + (st.map fun v => v.category).sum) + (13 * (names.length + 1) + 42) ≤ R.locals; omega) hC.lk
      exact ⟨U, hsteps, hrun, hend, hWU, hsame, ce, hce, Option.some.inj (K.cls.symm.trans hcX), K.vm⟩
    rcases hLI with ⟨rfl, rfl⟩ | ⟨rfl, rfl⟩
    · exact va_ldcS hC.ex hC.cd hown' hZ hd2 (by rw [hp3]; exact tail)
    · exact ev_ldcwS hC.ex hC.cd hown' hZ hd2 (by rw [hp3]; exact tail)
  obtain ⟨U, hsteps, hrun, hend, hWU, hsame, ce, hce, hce1, hce2⟩ := kw T rfl X0
  obtain ⟨e2, q2, q3, q4, q5, q6⟩ := hsame
  have hold : ∀ q : Nat, q < T.heap.size → U.heap[q]? = T.heap[q]? := by
    intro q hq
    have hcq : s'.heap[q]? = some T.heap[q] := by rw [hhp]; exact Array.getElem?_eq_getElem hq
    obtain ⟨c', g1, g2, g3, g4⟩ := q6 q _ hcq
    have g1' : U.heap[q]? = some c' := g1
    have hsl : c'.slots = (T.heap[q]).slots := Array.ext_getElem? fun i => g4 i (by simp)
    rw [g1', g2, hsl]
    exact (Array.getElem?_eq_getElem hq).symm
  have hUz : U.heap.size = sz + 1 := by
    have a1 : sz < U.heap.size := (Array.getElem?_eq_some_iff.mp hce).1
    have a2 : U.heap.size ≤ s'.heap.size + 1 := q3
    rw [hhp] at a2
    omega
  have hB : T.sameButNew (({ U with vm := s'.vm } : State)) [] 1 6 := by
    have e3 := e2
    rw [← hs', State.setFrames_setFrames] at e3
    subst hs'
    exact ⟨e3, q2, q3, q4, q5, q6⟩
  refine ⟨U, hsteps, .threw sz, ev_up h sz (.inr (ci, [])), sz + 1, k, n, locs ++ [], cells + 1, slots + 6, hrun, hend, ?_, ?_, ?_, by omega, by omega, hq⟩
  · refine State.WarmedH.trans X.warmed ?_
    rw [← hs'] at hWU
    exact hWU
  · exact X.same.trans (hB.setVm s.vm)
  · rw [List.append_nil]
    refine ev_R_new hR ⟨_, hci, ce, hce, hce1, hce2, fun j hj => ?_⟩ hUz (fun q hq => hold q (by omega))
    exact absurd hj (Nat.not_lt_zero _)
theorem ev_throw {p1 p2 p3 p4 p5 ix il ic ci : Nat} {XX tx : String} {names : List String} (hd0 : ev_d M pc (.new ix) 3 p1) (hd1 : ev_d M p1 .dup 1 p2) (hd2 : ev_d M p2 (.ldc il) 2 p3) (hd3 : ev_d M p3 (.invokespecial ic) 3 p4) (hd4 : ev_d M p4 .athrow 1 p5)
    (hnone : M.2.2.2.2 = []) (hw : ev_wT M.1.cls ix il ic ci XX tx names) (hst : Nat.ble (st.map fun v => v.category).sum 64 = true) (hq : Q (.threw sz) (ev_up h sz (.inr (ci, []))) (sz + 1) k n) : Ev E M (d + 8) pc ls st h sz (k + 1) (n + 6) Q := ev_throwG (Or.inl ⟨rfl, rfl⟩) hd0 hd1 hd2 hd3 hd4 hnone hw hst hq
/-- no handler: on to the caller -/
theorem ev_out {a : Nat} (hnone : M.2.2.2.2 = []) (hq : Q (.threw a) h sz k n) : Et E M d pc ls a h sz k n Q := by
  intro p e R s m args below meth c T locs cells slots lsr st hC hR hL h1 h2 h3 h4 X
  have hxt : c.exceptionTable.toList = [] := by
    have := hC.xt
    rw [hnone] at this
    exact List.map_eq_nil_iff.mp this
  obtain ⟨hwalk, hrun, hend, hW, hsame⟩ := X.leaveThrown a (g := F0 m pc lsr st) rfl rfl rfl (fun x hx => by rw [hxt] at hx; cases hx) hC.lk
  exact ⟨_, hwalk, .threw a, h, sz, k, n, locs, cells, slots, hrun, hend, hW, hsame, hR, h3, h4, hq⟩
end EVT
/-- the search of one frame's table, with the tables that it leaves -/
def ev_Fi (e : Env) (s : State) (f : JFrame) (a : Addr) (hd : Handler) (vm' : Vm) : Prop :=
  ∀ (Q : Handler → Jvm.Pre) (E : Jvm.CtlPost) (d : Bool) (acts : List Action), Sem.wp (findHandler f a) Q E e d acts s ↔ Q hd d acts (s.setVm vm')
section EGO
variable {Q : Handler → Jvm.Pre} {E : Jvm.CtlPost} {e : Env} {d : Bool} {acts : List Action} {s : State} {f : JFrame} {a : Addr} {x : ClassFile.ExceptionTableEntry} {t : List ClassFile.ExceptionTableEntry} {c : ClassId} {cell : Cell}
theorem ev_go (hx : covers x f.pc = true) (h0 : x.catchType ≠ 0)
    (hl : s.vm.ClassLinks e.platform f.method.cls x.catchType c) (hcell : s.heap[a]? = some cell) (hobj : ∀ k, cell.vm ≠ .statics k)
    (hk : ∃ k, s.vm.classes[cell.cls]? = some k) (hc : ∃ k, s.vm.classes[c]? = some k) :
    Sem.wp (findHandler.go f a (x :: t)) Q E e d acts s ↔ if s.vm.assignable cell.cls c = true then Q (.found x.handlerPc) d acts (s.setVm (s.vm.noted f.method.cls x.catchType (.cls c))) else Sem.wp (findHandler.go f a t) Q E e d acts (s.setVm (s.vm.noted f.method.cls x.catchType (.cls c))) := by
  simp only [covers] at hx
  obtain ⟨ha, ht⟩ := (resolveClass_links e.toSetting hl).op (op := VmOp.resolveClass f.method.cls x.catchType) rfl
  have hal : s.vm.Alike (s.vm.noted f.method.cls x.catchType (.cls c)) := (Vm.Alike.refl s.vm).noted _ _ _
  obtain ⟨k1, hk1⟩ := hk
  obtain ⟨k2, hk2⟩ := hc
  obtain ⟨k1', hk1', -⟩ := hal.2.2 _ _ hk1
  obtain ⟨k2', hk2', -⟩ := hal.2.2 _ _ hk2
  have hfit' : (s.vm.noted f.method.cls x.catchType (.cls c)).assignable cell.cls c = s.vm.assignable cell.cls c := hal.assignable _ _
  cases hfit : s.vm.assignable cell.cls c <;> rw [hfit] at hfit' <;>
    simp [findHandler.go, hx, h0, ha, ht, hcell, hobj, hk1', hk2', hfit', VmOp.dirties, VmOp.acts]
end EGO
theorem ev_step_catch {e : Env} {s : State} {a : Addr} {f : JFrame} {r : List Frame} {pc : Nat} {vm' : Vm} (hfind : ev_Fi e s f a (.found pc) vm') :
    (stepThrowing e s a (.java f :: r)).Is ((s.setVm vm').setFrames (.java { f with pc := pc, stack := [.ref a] } :: r)) [] := by
  simp only [stepThrowing, searchFrame, vmDo]
  generalize hr : Sem.go _ e false [] s = res
  obtain ⟨as, rfl, ha⟩ := Sem.eq_ok_of hr (a := Handler.found pc) (s' := s.setVm vm') (acts' := []) (by simp [hfind _ _ _ _])
  exact ⟨rfl, ha⟩
theorem ev_caught {tb : Tables} {e : Env} {s target : State} {g : JFrame} {c : Code} {below : List Frame} {a : Addr} (h : At s g.method c below) {pc : Nat} {vm' : Vm}
    (hfind : ev_Fi e ((s.setTop g).pushFrame (.throwing a)) g a (.found pc) vm') (hrest : Steps tb e below ((s.setVm vm').setTop { g with pc := pc, stack := [.ref a] }) target) :
    Steps tb e below ((s.setTop g).pushFrame (.throwing a)) target := by
  obtain ⟨hgo, hw⟩ := h.throwing a
  refine Steps.head hgo hw ?_
  rw [stepThread_throwing (frames_entered h.top _), (ev_step_catch (s := (s.setTop g).pushFrame (.throwing a)) hfind).1]
  obtain ⟨g₀, hg⟩ := Option.isSome_iff_exists.mp h.top
  obtain ⟨r, hr⟩ := State.topJava?_eq_some.mp hg
  have hr' : (s.setVm vm').frames = .java g₀ :: r := hr
  have hsv : ∀ (u : State) (F G : List Frame), ((u.setFrames F).setVm vm').setFrames G = (u.setVm vm').setFrames G := fun u F G => by
    have h1 : (u.setFrames F).setVm vm' = (u.setVm vm').setFrames F := rfl
    rw [h1, State.setFrames_setFrames]
  rw [State.setTop_of_frames _ hr'] at hrest
  rw [hr, List.tail_cons, State.pushFrame, hsv, State.setTop_of_frames _ hr, hsv]
  exact hrest
section EVK
variable {E : ev_E} {M : ev_M} {d pc : Nat} {ls : List (Option Value)} {h : ev_h} {sz k n : Nat} {Q : ev_Q}
/-- the first row takes it -/
theorem ev_catch1 {a ci s1 e1 hp ct N : Nat} {tl : List (Nat × Nat × Nat × Nat)} {X nm : String} {TX : u_T} {fs : List Value} (hx : M.2.2.2.2 = (s1, e1, hp, ct) :: tl) (hcov : (decide (s1 ≤ pc) && decide (pc < e1)) = true) (hct : ct ≠ 0) (hl : Cond.classLink M.1.cls ct nm ∈ lw_tbl) (hci : ev_cl[ci]? = some (X, TX, N)) (hcast : Cond.castable X nm ∈ lw_tbl) (he : h a = some (.inr (ci, fs)))
    (kk : Ev E M d hp ls [.ref a] h sz k n Q) : Et E M d pc ls a h sz k n Q := by
  intro p e R s m args below meth c T locs cells slots lsr st hC hR hL h1 h2 h3 h4 X0
  have hpl : e.platform.magicAccessors = ({} : Platform).magicAccessors := by rw [X0.admits.platform]
  have hxt := hC.xt
  rw [hx] at hxt
  obtain ⟨x, xs, ht, hx1, hx2⟩ := List.map_eq_cons_iff.mp hxt
  have y1 : x.startPc = s1 := congrArg (fun q => q.1) hx1
  have y2 : x.endPc = e1 := congrArg (fun q => q.2.1) hx1
  have y3 : x.handlerPc = hp := congrArg (fun q => q.2.2.1) hx1
  have y4 : x.catchType = ct := congrArg (fun q => q.2.2.2) hx1
  obtain ⟨cT, hcT, hcl⟩ := Cond.classLink_spec hC.ow (hC.w hl (ev_gdT rfl) args) e.platform hpl
  rw [← y4] at hcl
  obtain ⟨dk, _, _, kt, hdk, _, _, _, _, hkt, _, hopen⟩ := hcl.here
  have hW' : s.WarmedH (T.vm.noted m.cls x.catchType (.cls cT)) := X0.warmed.noted hdk hopen (State.rightAt_cls hcl)
  obtain ⟨cell, hcell, hobj, hcls⟩ := va_recv hC.K (ev_P1 (hR.1 a _ he)) hci (q0 := 0) rfl
  obtain ⟨c0, t0, f1, f2, f3⟩ := Cond.castable_spec (hC.w hcast ev_gdC args)
  cases hcls.symm.trans f1
  cases hcT.symm.trans f2
  have hal := X0.warmed.alike
  obtain ⟨kt', hkt', -⟩ := hal.2.2 _ _ hkt
  have hfit : T.vm.assignable cell.cls cT = true := by rw [hal.assignable]; exact f3
  have hfind : ev_Fi e ((T.setTop (F0 m pc lsr st)).pushFrame (.throwing a)) (F0 m pc lsr st) a (.found x.handlerPc) (T.vm.noted m.cls x.catchType (.cls cT)) := by
    intro Q1 E1 d1 acts
    refine (W.findHandler_eq (s := (T.setTop (F0 m pc lsr st)).pushFrame (.throwing a)) (f := F0 m pc lsr st) (meth := meth) (code := c) X0.method' X0.code).trans ?_
    rw [ht]
    refine (ev_go (s := (T.setTop (F0 m pc lsr st)).pushFrame (.throwing a)) (e := e) (f := F0 m pc lsr st) (a := a) (x := x) (t := xs) (c := cT) (cell := cell) (by show (decide (x.startPc ≤ pc) && decide (pc < x.endPc)) = true; rw [y1, y2]; exact hcov) (by rw [y4]; exact hct) (X0.warmed.classLinks hcl) hcell (VmData.ne_statics_of hobj) (Vm.classAt_of_assignable hfit ⟨kt', hkt'⟩) ⟨kt', hkt'⟩).trans ?_
    exact Iff.of_eq (if_pos hfit)
  obtain ⟨t, s1', z⟩ := kk p e R s m args below meth c (T.setVm (T.vm.noted m.cls x.catchType (.cls cT))).heap locs cells slots lsr hC hR hL h1 h2 h3 h4 _ rfl (X0.noted hW')
  refine ⟨t, ev_caught X0.here hfind ?_, z⟩
  rw [y3]
  exact s1'
/-- the first row passes it, the second takes it -/
theorem ev_catch2 {a ci s1 e1 hp1 ct1 s2 e2 hp ct N : Nat} {tl : List (Nat × Nat × Nat × Nat)} {X nm1 nm : String} {TX : u_T} {fs : List Value} (hx : M.2.2.2.2 = (s1, e1, hp1, ct1) :: (s2, e2, hp, ct) :: tl) (hcov1 : (decide (s1 ≤ pc) && decide (pc < e1)) = true) (hcov : (decide (s2 ≤ pc) && decide (pc < e2)) = true) (hct1 : ct1 ≠ 0) (hct : ct ≠ 0) (hl1 : Cond.classLink M.1.cls ct1 nm1 ∈ lw_tbl) (hl : Cond.classLink M.1.cls ct nm ∈ lw_tbl) (hci : ev_cl[ci]? = some (X, TX, N)) (hno : Cond.not (.castable X nm1) ∈ lw_tbl) (hcast : Cond.castable X nm ∈ lw_tbl) (he : h a = some (.inr (ci, fs)))
    (kk : Ev E M d hp ls [.ref a] h sz k n Q) : Et E M d pc ls a h sz k n Q := by
  intro p e R s m args below meth c T locs cells slots lsr st hC hR hL h1 h2 h3 h4 X0
  have hpl : e.platform.magicAccessors = ({} : Platform).magicAccessors := by rw [X0.admits.platform]
  have hxt := hC.xt
  rw [hx] at hxt
  obtain ⟨x1, xs1, ht1, hx11, hx12⟩ := List.map_eq_cons_iff.mp hxt
  obtain ⟨x, xs, ht, hx1, hx2⟩ := List.map_eq_cons_iff.mp hx12
  have w1 : x1.startPc = s1 := congrArg (fun q => q.1) hx11
  have w2 : x1.endPc = e1 := congrArg (fun q => q.2.1) hx11
  have w4 : x1.catchType = ct1 := congrArg (fun q => q.2.2.2) hx11
  have y1 : x.startPc = s2 := congrArg (fun q => q.1) hx1
  have y2 : x.endPc = e2 := congrArg (fun q => q.2.1) hx1
  have y3 : x.handlerPc = hp := congrArg (fun q => q.2.2.1) hx1
  have y4 : x.catchType = ct := congrArg (fun q => q.2.2.2) hx1
  obtain ⟨c1, hc1, hcl1⟩ := Cond.classLink_spec hC.ow (hC.w hl1 (ev_gdT rfl) args) e.platform hpl
  rw [← w4] at hcl1
  obtain ⟨cT, hcT, hcl⟩ := Cond.classLink_spec hC.ow (hC.w hl (ev_gdT rfl) args) e.platform hpl
  rw [← y4] at hcl
  obtain ⟨dk1, _, _, kt1, hdk1, _, _, _, _, hkt1, _, hopen1⟩ := hcl1.here
  obtain ⟨dk, _, _, kt, hdk, _, _, _, _, hkt, _, hopen⟩ := hcl.here
  have hW1 : s.WarmedH (T.vm.noted m.cls x1.catchType (.cls c1)) := X0.warmed.noted hdk1 hopen1 (State.rightAt_cls hcl1)
  have hW' : s.WarmedH ((T.vm.noted m.cls x1.catchType (.cls c1)).noted m.cls x.catchType (.cls cT)) := hW1.noted hdk hopen (State.rightAt_cls hcl)
  obtain ⟨cell, hcell, hobj, hcls⟩ := va_recv hC.K (ev_P1 (hR.1 a _ he)) hci (q0 := 0) rfl
  obtain ⟨c0, t0, f1, f2, f3⟩ := Cond.castable_spec (hC.w hcast ev_gdC args)
  cases hcls.symm.trans f1
  cases hcT.symm.trans f2
  obtain ⟨c0', t0', g1, g2, g3⟩ := hC.nc hno
  cases hcls.symm.trans g1
  cases hc1.symm.trans g2
  have hal := X0.warmed.alike
  obtain ⟨kt1', hkt1', -⟩ := hal.2.2 _ _ hkt1
  obtain ⟨kt', hkt', -⟩ := hal.2.2 _ _ hkt
  obtain ⟨kt2, hkt2, -⟩ := hW1.alike.2.2 _ _ hkt
  have hfitT : T.vm.assignable cell.cls cT = true := by rw [hal.assignable]; exact f3
  have hnofit : ¬ T.vm.assignable cell.cls c1 = true := by rw [hal.assignable, g3]; decide
  have hfit : (T.vm.noted m.cls x1.catchType (.cls c1)).assignable cell.cls cT = true := by rw [hW1.alike.assignable]; exact f3
  have hfind : ev_Fi e ((T.setTop (F0 m pc lsr st)).pushFrame (.throwing a)) (F0 m pc lsr st) a (.found x.handlerPc) ((T.vm.noted m.cls x1.catchType (.cls c1)).noted m.cls x.catchType (.cls cT)) := by
    intro Q1 E1 d1 acts
    refine (W.findHandler_eq (s := (T.setTop (F0 m pc lsr st)).pushFrame (.throwing a)) (f := F0 m pc lsr st) (meth := meth) (code := c) X0.method' X0.code).trans ?_
    rw [ht1, ht]
    refine (ev_go (s := (T.setTop (F0 m pc lsr st)).pushFrame (.throwing a)) (e := e) (f := F0 m pc lsr st) (a := a) (x := x1) (t := x :: xs) (c := c1) (cell := cell) (by show (decide (x1.startPc ≤ pc) && decide (pc < x1.endPc)) = true; rw [w1, w2]; exact hcov1) (by rw [w4]; exact hct1) (X0.warmed.classLinks hcl1) hcell (VmData.ne_statics_of hobj) (Vm.classAt_of_assignable hfitT ⟨kt', hkt'⟩) ⟨kt1', hkt1'⟩).trans ?_
    refine (Iff.of_eq (if_neg hnofit)).trans ?_
    refine (ev_go (s := ((T.setTop (F0 m pc lsr st)).pushFrame (.throwing a)).setVm (T.vm.noted m.cls x1.catchType (.cls c1))) (e := e) (f := F0 m pc lsr st) (a := a) (x := x) (t := xs) (c := cT) (cell := cell) (by show (decide (x.startPc ≤ pc) && decide (pc < x.endPc)) = true; rw [y1, y2]; exact hcov) (by rw [y4]; exact hct) (hW1.classLinks hcl) hcell (VmData.ne_statics_of hobj) (Vm.classAt_of_assignable hfit ⟨kt2, hkt2⟩) ⟨kt2, hkt2⟩).trans ?_
    exact Iff.of_eq (if_pos hfit)
  obtain ⟨t, s1', z⟩ := kk p e R s m args below meth c (T.setVm ((T.vm.noted m.cls x1.catchType (.cls c1)).noted m.cls x.catchType (.cls cT))).heap locs cells slots lsr hC hR hL h1 h2 h3 h4 _ rfl (X0.noted hW')
  refine ⟨t, ev_caught X0.here hfind ?_, z⟩
  rw [y3]
  exact s1'
end EVK
end
section
/-! Ev: Object's constructor, instanceof, checkcast, switches, comparisons of longs, arraycopy. -/
section EVX
variable {E : ev_E} {M : ev_M} {d pc pc' : Nat} {ls : List (Option Value)} {st : List Value} {h : ev_h} {sz k n : Nat} {Q : ev_Q}
def ev_wO (own : String) (index : Nat) : Prop := Cond.methodLink own index Lib.objectInit ∈ lw_tbl ∧ Cond.instanceMethod Lib.objectInit ∈ lw_tbl ∧ Cond.code Lib.objectInit ⟨#[0xb1]⟩ 1 none ∈ lw_tbl
theorem ev_obj {index a : Nat} (hd : ev_d M pc (.invokespecial index) 3 pc') (hw : ev_wO M.1.cls index) (hst : Nat.ble (st.map fun v => v.category).sum 50 = true) (kk : Ev E M (d + 1) pc' ls st h sz k n Q) : Ev E M (d + 1) pc ls (.ref a :: st) h sz k n Q := by
  obtain ⟨hd, rfl⟩ := hd
  replace hst := Nat.le_of_ble_eq_true hst
  intro p e R s m args below meth c H locs cells slots lsr hC hR hL h1 h2 h3 h4
  exact W.objInit hC.ex hC.cd hC.ow (hC.w hw.1 (ev_gdT rfl) args) (hC.w hw.2.1 (ev_gdT rfl) args) (hC.w hw.2.2 (ev_gdT rfl) args) rfl (hL.1.trans hC.ml.symm) rfl hd (by omega) (by show 2 * 0 + (st.map fun v => v.category).sum + 12 ≤ R.locals; omega)
    (kk p e R s m args below meth c H locs cells slots lsr hC hR hL h1 h2 h3 h4)
theorem ev_instY {index a ci N : Nat} {C nm : String} {T : u_T} {fs : List Value} (hd : ev_d M pc (.instanceof index) 3 pc') (hl : Cond.classLink M.1.cls index nm ∈ lw_tbl) (hc : ev_cl[ci]? = some (C, T, N)) (hcast : C = nm ∨ Cond.castable C nm ∈ lw_tbl) (he : h a = some (oB ci fs))
    (kk : Ev E M d pc' ls (.int 1 :: st) h sz k n Q) : Ev E M d pc ls (.ref a :: st) h sz k n Q := by
  obtain ⟨hd, rfl⟩ := hd
  intro p e R s m args below meth c H locs cells slots lsr hC hR hL h1 h2 h3 h4
  have kw := kk p e R s m args below meth c H locs cells slots lsr hC hR hL h1 h2 h3 h4
  have hr := va_recv hC.K (ev_P1 (hR.1 a _ he)) hc (q0 := 0) rfl
  rcases hcast with rfl | hcast
  · exact va_instS hC.ex hC.cd hC.ow (hC.w hl (ev_gdT rfl) args) (hC.K.1 ci _ hc).2 hr hd kw
  · exact va_instY hC.ex hC.cd hC.ow (hC.w hl (ev_gdT rfl) args) (va_Nw.of rfl (hC.w hcast ev_gdC args)) hr hd kw
theorem ev_instN {index a ci N : Nat} {C nm : String} {T : u_T} {fs : List Value} (hd : ev_d M pc (.instanceof index) 3 pc') (hl : Cond.classLink M.1.cls index nm ∈ lw_tbl) (hc : ev_cl[ci]? = some (C, T, N)) (hno : Cond.not (.castable C nm) ∈ lw_tbl) (he : h a = some (oB ci fs))
    (kk : Ev E M d pc' ls (.int 0 :: st) h sz k n Q) : Ev E M d pc ls (.ref a :: st) h sz k n Q := by
  obtain ⟨hd, rfl⟩ := hd
  intro p e R s m args below meth c H locs cells slots lsr hC hR hL h1 h2 h3 h4
  have kw := kk p e R s m args below meth c H locs cells slots lsr hC hR hL h1 h2 h3 h4
  exact va_instNo hC.ex hC.cd hC.ow (hC.w hl (ev_gdT rfl) args) (hC.nc hno) (va_recv hC.K (ev_P1 (hR.1 a _ he)) hc (q0 := 0) rfl) hd kw
theorem ev_cast {index a ci N : Nat} {C nm : String} {T : u_T} {fs : List Value} (hd : ev_d M pc (.checkcast index) 3 pc') (hl : Cond.classLink M.1.cls index nm ∈ lw_tbl) (hc : ev_cl[ci]? = some (C, T, N)) (hcast : C = nm ∨ Cond.castable C nm ∈ lw_tbl) (he : h a = some (oB ci fs))
    (kk : Ev E M d pc' ls (.ref a :: st) h sz k n Q) : Ev E M d pc ls (.ref a :: st) h sz k n Q := by
  obtain ⟨hd, rfl⟩ := hd
  intro p e R s m args below meth c H locs cells slots lsr hC hR hL h1 h2 h3 h4
  have kw := kk p e R s m args below meth c H locs cells slots lsr hC hR hL h1 h2 h3 h4
  have hr := va_recv hC.K (ev_P1 (hR.1 a _ he)) hc (q0 := 0) rfl
  rcases hcast with rfl | hcast
  · exact va_castS hC.ex hC.cd hC.ow (hC.w hl (ev_gdT rfl) args) (hC.K.1 ci _ hc).2 hr hd kw
  · exact va_castY hC.ex hC.cd hC.ow (hC.w hl (ev_gdT rfl) args) (va_Nw.of rfl (hC.w hcast ev_gdC args)) hr hd kw
theorem ev_lcmp {x y : Int64} (hd : ev_d M pc .lcmp 1 pc') (kk : Ev E M d pc' ls (.int (lg_cmp x y) :: st) h sz k n Q) : Ev E M d pc ls (.long y :: .long x :: st) h sz k n Q := by
  obtain ⟨hd, rfl⟩ := hd
  exact ev_pure (fun hx hb _ kw => W.lcmp hx hb hd kw) kk
theorem ev_tabIn {dflt lo hi off : Int} {offs : Array Int} {len tgt : Nat} {x : Int32} (hd : ev_d M pc (.tableswitch dflt lo hi offs) len pc') (g1 : ¬ x.toInt < lo) (g2 : ¬ hi < x.toInt) (ho : offs[(x.toInt - lo).toNat]? = some off) (ht : (pc : Int) + off = (tgt : Int))
    (kk : Ev E M d tgt ls st h sz k n Q) : Ev E M d pc ls (.int x :: st) h sz k n Q := ev_pure (fun hx hb _ kw => lv_tableIn hx hb hd.1 g1 g2 ho ht kw) kk
theorem ev_tabOut {dflt lo hi : Int} {offs : Array Int} {len tgt : Nat} {x : Int32} (hd : ev_d M pc (.tableswitch dflt lo hi offs) len pc') (g : x.toInt < lo ∨ hi < x.toInt) (ht : (pc : Int) + dflt = (tgt : Int))
    (kk : Ev E M d tgt ls st h sz k n Q) : Ev E M d pc ls (.int x :: st) h sz k n Q := ev_pure (fun hx hb _ kw => lv_tableOut hx hb hd.1 g ht kw) kk
theorem ev_look {dflt off : Int} {ps : Array (Int × Int)} {len tgt : Nat} {x : Int32} (hd : ev_d M pc (.lookupswitch dflt ps) len pc') (hp : (ps.toList.zip (ps.toList.drop 1)).all (fun (a, next) => a.1 < next.1) = true) (ho : Op.lookupswitch.offset ps.toList dflt x.toInt = off) (ht : (pc : Int) + off = (tgt : Int))
    (kk : Ev E M d tgt ls st h sz k n Q) : Ev E M d pc ls (.int x :: st) h sz k n Q := ev_pure (fun hx hb _ kw => lv_lookup hx hb hd.1 hp ho ht kw) kk
def ev_wA (own : String) (index : Nat) : Prop := Cond.methodLink own index arraycopyName ∈ lw_tbl ∧ Cond.native arraycopyName ∈ lw_tbl ∧ Cond.static arraycopyName ∈ lw_tbl ∧ Cond.initialized "java/lang/System" ∈ lw_tbl
/-- arraycopy of ints -/
theorem ev_copy {index a0 a n0 n1 sp dp len : Nat} {f g : Nat → Int32} (hd : ev_d M pc (.invokestatic index) 3 pc') (hw : ev_wA M.1.cls index) (he0 : h a0 = some (iA E n0 f)) (he : h a = some (iA E n1 g)) (hn0 : n0 ≤ 65536) (hn1 : n1 ≤ 65536) (g4 : sp + len ≤ n0) (g5 : dp + len ≤ n1) (hst : Nat.ble (st.map fun v => v.category).sum 16 = true)
    (kk : Ev E M (d + 1) pc' ls st (ev_up h a (iA E n1 (va_cpy f g sp dp len))) sz k n Q) : Ev E M (d + 1) pc ls (.int (nI len) :: .int (nI dp) :: .ref a :: .int (nI sp) :: .ref a0 :: st) h sz k n Q := by
  obtain ⟨hd, rfl⟩ := hd
  replace hst := Nat.le_of_ble_eq_true hst
  intro p e R s m args below meth c H locs cells slots lsr hC hR hL h1 h2 h3 h4 T hT X
  have c1 : (nI sp).toNatClampNeg = sp := nI_clamp (by omega)
  have c2 : (nI dp).toNatClampNeg = dp := nI_clamp (by omega)
  have c3 : (nI len).toNatClampNeg = len := nI_clamp (by omega)
  have hc0 : H[a0]? = some (vp_cell (E.2.2.1 0) (n0, .inl f)) := hR.1 a0 _ he0
  have hc1 : H[a]? = some (vp_cell (E.2.2.1 0) (n1, .inl g)) := hR.1 a _ he
  obtain ⟨-, k0, hk0, cm0, hkk0⟩ := (hC.K.2 0 _ rfl).1 n0 (fun j => .int (f j))
  obtain ⟨-, k1, hk1, cm1, hkk1⟩ := (hC.K.2 0 _ rfl).1 n1 (fun j => .int (g j))
  obtain ⟨vm', X', step⟩ := X.arraycopy hC.ex hC.ow (hC.w hw.1 (ev_gdT rfl) args) (hC.w hw.2.1 (ev_gdT rfl) args) (hC.w hw.2.2.1 (ev_gdT rfl) args) (hC.w hw.2.2.2 (ev_gdT rfl) args) (src := a0) (dst := a) (cs := vp_cell (E.2.2.1 0) (n0, .inl f)) (cd := vp_cell (E.2.2.1 0) (n1, .inl g)) (srcPos := nI sp) (destPos := nI dp) (n := nI len) (by rw [hT]; exact hc0) (by rw [hT]; exact hc1)
    (fun _ h => by cases h) (fun _ h => by cases h) (fun h => by cases h) (fun h => by cases h) hk0 hk1 hkk0 hkk1 (by decide) (nI_pos (by omega)) (nI_pos (by omega)) (nI_pos (by omega))
    (by rw [nI_toInt (by omega), nI_toInt (by omega)]; show ¬ _ > ((arrV (E.2.2.1 0) n0 (fun j => .int (f j))).slots.size : Int); rw [arrV_size]; omega)
    (by rw [nI_toInt (by omega), nI_toInt (by omega)]; show ¬ _ > ((arrV (E.2.2.1 0) n1 (fun j => .int (g j))).slots.size : Int); rw [arrV_size]; omega)
    (fun vm₁ _ i hi => by
      rw [c3] at hi
      have e0 : (vp_cell (E.2.2.1 0) (n0, .inl f)).slots.getD ((nI sp).toNatClampNeg + i) .null = .int (f (sp + i)) := by
        show (arrV (E.2.2.1 0) n0 (fun j => .int (f j))).slots.getD _ _ = _
        rw [c1, Array.getD_eq_getD_getElem?, arrV_read _ _ (by omega)]
        rfl
      rw [e0]
      exact ⟨rfl, trivial⟩)
    (g := F0 m pc lsr (.int (nI len) :: .int (nI dp) :: .ref a :: .int (nI sp) :: .ref a0 :: st)) rfl (hL.1.trans hC.ml.symm) (rest := st) rfl (by rw [hC.cd]; exact hd) (by omega) (by
      have : nativeFrameWords "java/lang/System" "arraycopy" 5 ≤ 30 := by decide +kernel
      show 2 * 0 + (st.map fun v => v.category).sum + _ ≤ _; omega)
  have e1 : copied (vp_cell (E.2.2.1 0) (n0, .inl f)) (vp_cell (E.2.2.1 0) (n1, .inl g)) (nI sp) (nI dp) (nI len) = vp_cell (E.2.2.1 0) (n1, .inl (va_cpy f g sp dp len)) := by
    have := va_copied (sp := nI sp) (dp := nI dp) (n := nI len) (fun z : Int32 => Value.int z) (E.2.2.1 0) (E.2.2.1 0) (n0 := n0) (n1 := n1) f g (by rw [c1, c3]; exact g4)
    rw [c1, c2, c3] at this
    exact this
  rw [e1] at X' step
  have hl : a < H.size := (Array.getElem?_eq_some_iff.mp hc1).1
  have hheap : ((T.setVm vm').setCell a (vp_cell (E.2.2.1 0) (n1, .inl (va_cpy f g sp dp len)))).heap = H.setIfInBounds a (vp_cell (E.2.2.1 0) (n1, .inl (va_cpy f g sp dp len))) := by rw [← hT]; rfl
  have oq : ∀ q : Nat, q ≠ a → (H.setIfInBounds a (vp_cell (E.2.2.1 0) (n1, .inl (va_cpy f g sp dp len))))[q]? = H[q]? := fun q hq => by simp [Array.getElem?_setIfInBounds, Ne.symm hq]
  have hR' := ev_R_up (i := 0) (x' := .inl (E.2.2.1 0, n1, .inl (va_cpy f g sp dp len))) hR he (show (H.setIfInBounds a _)[a]? = some _ by simp [Array.getElem?_setIfInBounds, hl]) (by simp) oq
  obtain ⟨t, a1, b1⟩ := kk p e R s m args below meth c _ _ cells slots lsr hC ⟨hR'.1, hR'.2.1, hR'.2.2.1, hR'.2.2.2.1, hR'.2.2.2.2.1, fun q hq => by
      rcases List.mem_append.mp hq with h | h
      · exact hR.2.2.2.2.2 q h
      · obtain ⟨z, -, hz⟩ := List.mem_map.mp h
        rw [← hz]
        exact hR.2.2.2.1 a _ he⟩ hL h1 h2 h3 h4 _ hheap X'
  exact ⟨t, step t a1, b1⟩
end EVX
theorem nI_mul (a b : Nat) : nI a * nI b = nI (a * b) := (Int32.ofNat_mul a b).symm
theorem bz0 : narrow .boolean (.int (nI 0)) = .int (nI 0) := by decide +kernel
theorem bz1 : narrow .boolean (.int (nI 1)) = .int (nI 1) := by decide +kernel
end
