/-! Classes, fields and array types of the claim (written by gen_lean.py out of the Statement). -/
def T_PT : u_T := fun k => match k with
  | 0 => ("PreferTable", "rows", "LPreferTable$Rows;", true)
  | 1 => ("PreferTable", "nodes", "[LPreferTable$Node;", true)
  | 2 => ("PreferTable", "nodeCount", "I", false)
  | 3 => ("PreferTable", "conditions", "LPreferTable$Conditions;", true)
  | 4 => ("PreferTable", "contest", "LPreferTable$Contest;", true)
  | 5 => ("PreferTable", "answered", "LPreferTable$RowList;", true)
  | 6 => ("PreferTable", "nobody", "LPreferTable$RowList;", true)
  | 7 => ("PreferTable", "questions", "[LPreferTable$Question;", true)
  | 8 => ("PreferTable", "alterations", "I", false)
  | 9 => ("PreferTable", "formNumbers", "[I", true)
  | 10 => ("PreferTable", "formLength", "I", false)
  | _ => ("", "", "", false)
def ty_PT : Nat → FieldType := fun k => match k with
  | 0 => (.object "PreferTable$Rows")
  | 1 => (.array (.object "PreferTable$Node"))
  | 2 => .int
  | 3 => (.object "PreferTable$Conditions")
  | 4 => (.object "PreferTable$Contest")
  | 5 => (.object "PreferTable$RowList")
  | 6 => (.object "PreferTable$RowList")
  | 7 => (.array (.object "PreferTable$Question"))
  | 8 => .int
  | 9 => (.array .int)
  | 10 => .int
  | _ => .int
def T_Rows : u_T := fun k => match k with
  | 0 => ("PreferTable$Rows", "numbers", "[I", true)
  | 1 => ("PreferTable$Rows", "values", "[[I", true)
  | 2 => ("PreferTable$Rows", "count", "I", false)
  | 3 => ("PreferTable$Rows", "made", "I", false)
  | _ => ("", "", "", false)
def ty_Rows : Nat → FieldType := fun k => match k with
  | 0 => (.array .int)
  | 1 => (.array (.array .int))
  | 2 => .int
  | 3 => .int
  | _ => .int
def T_RowList : u_T := fun k => match k with
  | 0 => ("PreferTable$RowList", "numbers", "[I", true)
  | 1 => ("PreferTable$RowList", "count", "I", false)
  | _ => ("", "", "", false)
def ty_RowList : Nat → FieldType := fun k => match k with
  | 0 => (.array .int)
  | 1 => .int
  | _ => .int
def T_Conditions : u_T := fun k => match k with
  | 0 => ("PreferTable$Conditions", "columns", "[I", true)
  | 1 => ("PreferTable$Conditions", "operations", "[I", true)
  | 2 => ("PreferTable$Conditions", "bounds", "[I", true)
  | 3 => ("PreferTable$Conditions", "count", "I", false)
  | _ => ("", "", "", false)
def ty_Conditions : Nat → FieldType := fun k => match k with
  | 0 => (.array .int)
  | 1 => (.array .int)
  | 2 => (.array .int)
  | 3 => .int
  | _ => .int
def T_Question : u_T := fun k => match k with
  | 0 => ("PreferTable$Question", "node", "LPreferTable$Node;", false)
  | 1 => ("PreferTable$Question", "conditions", "LPreferTable$Conditions;", true)
  | 2 => ("PreferTable$Question", "current", "LPreferTable$RowList;", true)
  | 3 => ("PreferTable$Question", "lastRead", "LPreferTable$RowList;", true)
  | 4 => ("PreferTable$Question", "alterationsSeen", "I", false)
  | _ => ("", "", "", false)
def ty_Question : Nat → FieldType := fun k => match k with
  | 0 => (.object "PreferTable$Node")
  | 1 => (.object "PreferTable$Conditions")
  | 2 => (.object "PreferTable$RowList")
  | 3 => (.object "PreferTable$RowList")
  | 4 => .int
  | _ => .int
def T_Contest : u_T := fun k => match k with
  | 0 => ("PreferTable$Contest", "beaters", "[I", true)
  | 1 => ("PreferTable$Contest", "levels", "[I", true)
  | 2 => ("PreferTable$Contest", "passing", "I", false)
  | _ => ("", "", "", false)
def ty_Contest : Nat → FieldType := fun k => match k with
  | 0 => (.array .int)
  | 1 => (.array .int)
  | 2 => .int
  | _ => .int
def T_ValueOrder : u_T := fun k => match k with
  | 0 => ("PreferTable$ValueOrder", "from", "I", true)
  | 1 => ("PreferTable$ValueOrder", "to", "I", true)
  | 2 => ("PreferTable$Order", "column", "I", true)
  | 3 => ("PreferTable$Node", "kind", "I", true)
  | 4 => ("PreferTable$Node", "number", "I", true)
  | 5 => ("PreferTable$Node", "size", "I", true)
  | 6 => ("PreferTable$Node", "columns", "I", true)
  | _ => ("", "", "", false)
def ty_ValueOrder : Nat → FieldType := fun k => match k with
  | 0 => .int
  | 1 => .int
  | 2 => .int
  | 3 => .int
  | 4 => .int
  | 5 => .int
  | 6 => .int
  | _ => .int
def T_Layers : u_T := fun k => match k with
  | 0 => ("PreferTable$Layers", "layerOf", "[I", true)
  | 1 => ("PreferTable$Order", "column", "I", true)
  | 2 => ("PreferTable$Node", "kind", "I", true)
  | 3 => ("PreferTable$Node", "number", "I", true)
  | 4 => ("PreferTable$Node", "size", "I", true)
  | 5 => ("PreferTable$Node", "columns", "I", true)
  | _ => ("", "", "", false)
def ty_Layers : Nat → FieldType := fun k => match k with
  | 0 => (.array .int)
  | 1 => .int
  | 2 => .int
  | 3 => .int
  | 4 => .int
  | 5 => .int
  | _ => .int
def T_Graph : u_T := fun k => match k with
  | 0 => ("PreferTable$Graph", "edges", "[I", true)
  | 1 => ("PreferTable$Graph", "reached", "[I", true)
  | 2 => ("PreferTable$Order", "column", "I", true)
  | 3 => ("PreferTable$Node", "kind", "I", true)
  | 4 => ("PreferTable$Node", "number", "I", true)
  | 5 => ("PreferTable$Node", "size", "I", true)
  | 6 => ("PreferTable$Node", "columns", "I", true)
  | _ => ("", "", "", false)
def ty_Graph : Nat → FieldType := fun k => match k with
  | 0 => (.array .int)
  | 1 => (.array .int)
  | 2 => .int
  | 3 => .int
  | 4 => .int
  | 5 => .int
  | 6 => .int
  | _ => .int
def T_Term : u_T := fun k => match k with
  | 0 => ("PreferTable$Term", "p", "LPreferTable$Node;", true)
  | 1 => ("PreferTable$Term", "q", "LPreferTable$Node;", true)
  | 2 => ("PreferTable$Node", "kind", "I", true)
  | 3 => ("PreferTable$Node", "number", "I", true)
  | 4 => ("PreferTable$Node", "size", "I", true)
  | 5 => ("PreferTable$Node", "columns", "I", true)
  | _ => ("", "", "", false)
def ty_Term : Nat → FieldType := fun k => match k with
  | 0 => (.object "PreferTable$Node")
  | 1 => (.object "PreferTable$Node")
  | 2 => .int
  | 3 => .int
  | 4 => .int
  | 5 => .int
  | _ => .int
def T_Md : u_T := fun k => match k with
  | 0 => ("PreferTableModel", "thrown", "I", false)
  | 1 => ("PreferTableModel", "rows", "I", false)
  | 2 => ("PreferTableModel", "there", "[Z", true)
  | 3 => ("PreferTableModel", "value", "[I", true)
  | 4 => ("PreferTableModel", "nodes", "I", false)
  | 5 => ("PreferTableModel", "kind", "[I", true)
  | 6 => ("PreferTableModel", "column", "[I", true)
  | 7 => ("PreferTableModel", "left", "[I", true)
  | 8 => ("PreferTableModel", "right", "[I", true)
  | 9 => ("PreferTableModel", "size", "[I", true)
  | 10 => ("PreferTableModel", "layer", "[I", true)
  | 11 => ("PreferTableModel", "edges", "[I", true)
  | 12 => ("PreferTableModel", "says", "[I", true)
  | 13 => ("PreferTableModel", "conditions", "[I", true)
  | 14 => ("PreferTableModel", "on", "[I", true)
  | 15 => ("PreferTableModel", "operation", "[I", true)
  | 16 => ("PreferTableModel", "than", "[I", true)
  | 17 => ("PreferTableModel", "isSaved", "[Z", true)
  | 18 => ("PreferTableModel", "question", "[I", true)
  | 19 => ("PreferTableModel", "seen", "[Z", true)
  | 20 => ("PreferTableModel", "best", "[Z", true)
  | 21 => ("PreferTableModel", "level", "[I", true)
  | 22 => ("PreferTableModel", "answers", "I", false)
  | 23 => ("PreferTableModel", "answer", "[I", true)
  | 24 => ("PreferTableModel", "made", "I", false)
  | 25 => ("PreferTableModel", "madeKind", "[I", true)
  | 26 => ("PreferTableModel", "madeColumn", "[I", true)
  | 27 => ("PreferTableModel", "madeA", "[I", true)
  | 28 => ("PreferTableModel", "madeB", "[I", true)
  | 29 => ("PreferTableModel", "madeOf", "[I", true)
  | 30 => ("PreferTableModel", "become", "[I", true)
  | 31 => ("PreferTableModel", "forms", "I", false)
  | 32 => ("PreferTableModel", "form", "[I", true)
  | 33 => ("PreferTableModel", "wait", "[I", true)
  | _ => ("", "", "", false)
def ty_Md : Nat → FieldType := fun k => match k with
  | 0 => .int
  | 1 => .int
  | 2 => (.array .boolean)
  | 3 => (.array .int)
  | 4 => .int
  | 5 => (.array .int)
  | 6 => (.array .int)
  | 7 => (.array .int)
  | 8 => (.array .int)
  | 9 => (.array .int)
  | 10 => (.array .int)
  | 11 => (.array .int)
  | 12 => (.array .int)
  | 13 => (.array .int)
  | 14 => (.array .int)
  | 15 => (.array .int)
  | 16 => (.array .int)
  | 17 => (.array .boolean)
  | 18 => (.array .int)
  | 19 => (.array .boolean)
  | 20 => (.array .boolean)
  | 21 => (.array .int)
  | 22 => .int
  | 23 => (.array .int)
  | 24 => .int
  | 25 => (.array .int)
  | 26 => (.array .int)
  | 27 => (.array .int)
  | 28 => (.array .int)
  | 29 => (.array .int)
  | 30 => (.array .int)
  | 31 => .int
  | 32 => (.array .int)
  | 33 => (.array .int)
  | _ => .int
def T_exc : u_T := fun _ => ("", "", "", false)
def ev_cl : List vw_C := [("PreferTable", T_PT, 11), ("PreferTable$Rows", T_Rows, 4), ("PreferTable$RowList", T_RowList, 2), ("PreferTable$Conditions", T_Conditions, 4), ("PreferTable$Question", T_Question, 5), ("PreferTable$Contest", T_Contest, 3), ("PreferTable$ValueOrder", T_ValueOrder, 7), ("PreferTable$Layers", T_Layers, 6), ("PreferTable$Graph", T_Graph, 7), ("PreferTable$Term", T_Term, 6), ("PreferTableModel", T_Md, 34), ("java/lang/IllegalStateException", T_exc, 0), ("java/lang/IllegalArgumentException", T_exc, 0), ("java/lang/IndexOutOfBoundsException", T_exc, 0)]
def ev_tys (A : Nat → ClassId) : List (ClassId × FieldType) := [(A 0, .int), (A 1, .boolean), (A 2, .long), (A 3, .object "PreferTable$Node"), (A 4, .object "PreferTable$Question"), (A 5, .array .int)]
def ev_strs : List (String × Nat × String) := [("PreferTable", 73, "no room for another row"), ("PreferTable", 100, "no such row or column"), ("PreferTable", 105, "no such order"), ("PreferTable", 108, "no room for another node"), ("PreferTable", 129, "no such node or value"), ("PreferTable", 259, "a value would be better than itself"), ("PreferTable", 137, "the node has no edges"), ("PreferTable", 139, "no such kind or node"), ("PreferTable", 147, "too many nodes, or too large a term"), ("PreferTable", 152, "no such column or operation"), ("PreferTable", 157, "no room for another condition"), ("PreferTable", 165, "no such node or row"), ("PreferTable", 171, "no such node"), ("PreferTable", 182, "no such node or column"), ("PreferTable", 188, "fewer than no rows"), ("PreferTable", 211, "no such question or node"), ("PreferTable", 237, "no such number in the form")]
def ev_stat : List Cond := [.isRef (.static Bundle.tN "UNASSIGNED_STACK" Bundle.steD), .isRef (.static Bundle.tN "SUPPRESSED_SENTINEL" Bundle.listD), .laysStatic Bundle.tN "UNASSIGNED_STACK" Bundle.steD, .laysStatic Bundle.tN "SUPPRESSED_SENTINEL" Bundle.listD]
