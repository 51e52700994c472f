/-! The class's constructors (written by gen_c12.py over walk.py). -/
theorem wd_36 : Cond.arrayOver (.array .int) ∈ lw_tbl := ev_mem 36 (by decide +kernel)
theorem wd_54 : Cond.arrayClass .int ∈ lw_tbl := ev_mem 54 (by decide +kernel)
theorem wd_56 : Cond.arrayOver (.object "PreferTable$Node") ∈ lw_tbl := ev_mem 56 (by decide +kernel)
theorem wd_110 : Cond.arrayOver (.object "PreferTable$Question") ∈ lw_tbl := ev_mem 110 (by decide +kernel)
theorem wd_875 : Cond.arrayClass .boolean ∈ lw_tbl := ev_mem 875 (by decide +kernel)
theorem wd_1068 : Cond.arrayClass .long ∈ lw_tbl := ev_mem 1068 (by decide +kernel)
theorem wd_1070 : Cond.castable "PreferTable$Layers" "PreferTable$Layers" ∈ lw_tbl := ev_mem 1070 (by decide +kernel)
theorem wd_1071 : Cond.castable "PreferTable$Graph" "PreferTable$Graph" ∈ lw_tbl := ev_mem 1071 (by decide +kernel)
theorem wd_1073 : Cond.castable "PreferTable$Graph" "PreferTable$Node" ∈ lw_tbl := ev_mem 1073 (by decide +kernel)
theorem wd_1074 : Cond.castable "PreferTable$Layers" "PreferTable$Node" ∈ lw_tbl := ev_mem 1074 (by decide +kernel)
theorem wd_1075 : Cond.castable "PreferTable$Term" "PreferTable$Node" ∈ lw_tbl := ev_mem 1075 (by decide +kernel)
theorem wd_1076 : Cond.castable "PreferTable$ValueOrder" "PreferTable$Node" ∈ lw_tbl := ev_mem 1076 (by decide +kernel)
theorem wd_351 : Cond.castable "java/lang/IllegalStateException" "java/lang/IllegalStateException" ∈ lw_tbl := ev_mem 351 (by decide +kernel)
theorem wd_431 : Cond.castable "java/lang/IndexOutOfBoundsException" "java/lang/IndexOutOfBoundsException" ∈ lw_tbl := ev_mem 431 (by decide +kernel)
theorem wd_455 : Cond.castable "java/lang/IllegalArgumentException" "java/lang/IllegalArgumentException" ∈ lw_tbl := ev_mem 455 (by decide +kernel)
section C12
variable {E : ev_E} {d : Nat} {h : ev_h} {sz k n : Nat} {Q : ev_Q}
variable {M : ev_M} {pc pc' : Nat} {ls : List (Option Value)} {st : List Value}
theorem ev_newE {index ci N s' : Nat} {fs : List Value} (hd : ev_d M pc (.new index) 3 pc') (hs : ev_ns M.1.cls index ci N fs) (hz : sz + 1 = s') (kk : Ev E M d pc' ls (.ref sz :: st) (ev_up h sz (oB ci fs)) s' k n Q) : Ev E M d pc ls st h sz (k + 1) (n + N) Q := by
  subst hz; exact ev_new hd hs kk
theorem ev_newiE {N s' : Nat} (hd : ev_d M pc (.newarray .int) 2 pc') (hN : N ≤ 65536) (harr : Cond.arrayClass .int ∈ lw_tbl) (hz : sz + 1 = s') (kk : Ev E M d pc' ls (.ref sz :: st) (ev_up h sz (iA E N (fun _ => nI 0))) s' k n Q) : Ev E M d pc ls (.int (nI N) :: st) h sz (k + 1) (n + N) Q := by
  subst hz; exact ev_newi hd hN harr kk
theorem ev_newzE {N s' : Nat} (hd : ev_d M pc (.newarray .boolean) 2 pc') (hN : N ≤ 65536) (harr : Cond.arrayClass .boolean ∈ lw_tbl) (hz : sz + 1 = s') (kk : Ev E M d pc' ls (.ref sz :: st) (ev_up h sz (zA E N (fun _ => nI 0))) s' k n Q) : Ev E M d pc ls (.int (nI N) :: st) h sz (k + 1) (n + N) Q := by
  subst hz; exact ev_newz hd hN harr kk
theorem ev_newlE {N s' : Nat} (hd : ev_d M pc (.newarray .long) 2 pc') (hN : N ≤ 65536) (harr : Cond.arrayClass .long ∈ lw_tbl) (hz : sz + 1 = s') (kk : Ev E M d pc' ls (.ref sz :: st) (ev_up h sz (lA E N (fun _ => 0))) s' k n Q) : Ev E M d pc ls (.int (nI N) :: st) h sz (k + 1) (n + N) Q := by
  subst hz; exact ev_newl hd hN harr kk
theorem ev_anewE {N index t s' : Nat} {C : String} (hd : ev_d M pc (.anewarray index) 3 pc') (ht : (ev_tys E.2.2.1)[t]? = some (E.2.2.1 t, .object C)) (hlk : Cond.classLink M.1.cls index C ∈ lw_tbl) (hov : Cond.arrayOver (.object C) ∈ lw_tbl) (hN : N ≤ 65536) (hz : sz + 1 = s') (kk : Ev E M d pc' ls (.ref sz :: st) (ev_up h sz (rA E t N (fun _ => none))) s' k n Q) : Ev E M d pc ls (.int (nI N) :: st) h sz (k + 1) (n + N) Q := by
  subst hz; exact ev_anew hd ht hlk hov hN kk
theorem t_RowList_init {a : Nat} (ho : h a = some (oB 2 [.null, .int 0])) (kk : ∀ h', LsAt E a 0 (fun _ => nI 0) h' → fI a 2 h h' → Q (.returned none) h' (a + 2) k n) : Ev E m_RowList_init (d + 1) 0 [some (.ref a)] [] h (a + 1) (k + 1) (n + 24) Q := by
  refine ev_aload_0 (ev_dt dt_RowList_init_0 0 rfl) ?_
  refine ev_obj (ev_dt dt_RowList_init_0 1 rfl) o_RowList_3 rfl ?_
  refine ev_aload_0 (ev_dt dt_RowList_init_0 2 rfl) ?_
  refine ev_bipush (ev_dt dt_RowList_init_0 3 rfl) bi_24 ?_
  refine ev_newiE (s' := (a + 2)) (ev_dt dt_RowList_init_0 4 rfl) (by decide) wd_54 rfl ?_
  refine ev_put [.ref (a + 1), .int 0] (ev_dt dt_RowList_init_0 5 rfl) p_RowList_9_2 ((ev_up_n (by omega)).trans ho) rfl rfl rfl rfl ?_
  refine ev_aload_0 (ev_dt dt_RowList_init_0 6 rfl) ?_
  refine ev_ic0 (ev_dt dt_RowList_init_0 7 rfl) ?_
  refine ev_put [.ref (a + 1), .int (nI 0)] (ev_dt dt_RowList_init_0 8 rfl) p_RowList_15_2 ev_up_s rfl rfl rfl rfl ?_
  exact ev_return (ev_dt dt_RowList_init_0 9 rfl) rfl (kk _ ⟨ev_up_s, ((ev_up_n (by omega)).trans ((ev_up_n (by omega)).trans ev_up_s))⟩ (fun q hq => (ev_up_n (by omega)).trans ((ev_up_n (by omega)).trans ((ev_up_n (by omega)).trans (rfl)))))
theorem t_Conditions_init {a : Nat} (ho : h a = some (oB 3 [.null, .null, .null, .int 0])) (kk : ∀ h', CdAt E a 0 (fun _ => nI 0) (fun _ => nI 0) (fun _ => nI 0) h' → fI a 4 h h' → Q (.returned none) h' (a + 4) k n) : Ev E m_Conditions_init (d + 1) 0 [some (.ref a)] [] h (a + 1) (k + 3) (n + 12) Q := by
  refine ev_aload_0 (ev_dt dt_Conditions_init_0 0 rfl) ?_
  refine ev_obj (ev_dt dt_Conditions_init_0 1 rfl) o_Conditions_3 rfl ?_
  refine ev_aload_0 (ev_dt dt_Conditions_init_0 2 rfl) ?_
  refine ev_ic4 (ev_dt dt_Conditions_init_0 3 rfl) ?_
  refine ev_newiE (s' := (a + 2)) (ev_dt dt_Conditions_init_0 4 rfl) (by decide) wd_54 rfl ?_
  refine ev_put [.ref (a + 1), .null, .null, .int 0] (ev_dt dt_Conditions_init_0 5 rfl) p_Conditions_9_3 ((ev_up_n (by omega)).trans ho) rfl rfl rfl rfl ?_
  refine ev_aload_0 (ev_dt dt_Conditions_init_0 6 rfl) ?_
  refine ev_ic4 (ev_dt dt_Conditions_init_0 7 rfl) ?_
  refine ev_newiE (s' := (a + 3)) (ev_dt dt_Conditions_init_0 8 rfl) (by decide) wd_54 rfl ?_
  refine ev_put [.ref (a + 1), .ref (a + 2), .null, .int 0] (ev_dt dt_Conditions_init_0 9 rfl) p_Conditions_15_3 ((ev_up_n (by omega)).trans ev_up_s) rfl rfl rfl rfl ?_
  refine ev_aload_0 (ev_dt dt_Conditions_init_0 10 rfl) ?_
  refine ev_ic4 (ev_dt dt_Conditions_init_0 11 rfl) ?_
  refine ev_newiE (s' := (a + 4)) (ev_dt dt_Conditions_init_0 12 rfl) (by decide) wd_54 rfl ?_
  refine ev_put [.ref (a + 1), .ref (a + 2), .ref (a + 3), .int 0] (ev_dt dt_Conditions_init_0 13 rfl) p_Conditions_18_3 ((ev_up_n (by omega)).trans ev_up_s) rfl rfl rfl rfl ?_
  refine ev_aload_0 (ev_dt dt_Conditions_init_0 14 rfl) ?_
  refine ev_ic0 (ev_dt dt_Conditions_init_0 15 rfl) ?_
  refine ev_put [.ref (a + 1), .ref (a + 2), .ref (a + 3), .int (nI 0)] (ev_dt dt_Conditions_init_0 16 rfl) p_Conditions_21_3 ev_up_s rfl rfl rfl rfl ?_
  exact ev_return (ev_dt dt_Conditions_init_0 17 rfl) rfl (kk _ ⟨ev_up_s, ((ev_up_n (by omega)).trans ((ev_up_n (by omega)).trans ((ev_up_n (by omega)).trans ((ev_up_n (by omega)).trans ((ev_up_n (by omega)).trans ((ev_up_n (by omega)).trans ev_up_s)))))), ((ev_up_n (by omega)).trans ((ev_up_n (by omega)).trans ((ev_up_n (by omega)).trans ((ev_up_n (by omega)).trans ev_up_s)))), ((ev_up_n (by omega)).trans ((ev_up_n (by omega)).trans ev_up_s))⟩ (fun q hq => (ev_up_n (by omega)).trans ((ev_up_n (by omega)).trans ((ev_up_n (by omega)).trans ((ev_up_n (by omega)).trans ((ev_up_n (by omega)).trans ((ev_up_n (by omega)).trans ((ev_up_n (by omega)).trans (rfl)))))))))
theorem t_Contest_init {a : Nat} (ho : h a = some (oB 5 [.null, .null, .int 0])) (kk : ∀ h', CtAt E a (nI 0) (fun _ => nI 0) (fun _ => nI 0) h' → fI a 3 h h' → Q (.returned none) h' (a + 3) k n) : Ev E m_Contest_init (d + 1) 0 [some (.ref a)] [] h (a + 1) (k + 2) (n + 48) Q := by
  refine ev_aload_0 (ev_dt dt_Contest_init_0 0 rfl) ?_
  refine ev_obj (ev_dt dt_Contest_init_0 1 rfl) o_Contest_3 rfl ?_
  refine ev_aload_0 (ev_dt dt_Contest_init_0 2 rfl) ?_
  refine ev_bipush (ev_dt dt_Contest_init_0 3 rfl) bi_24 ?_
  refine ev_newiE (s' := (a + 2)) (ev_dt dt_Contest_init_0 4 rfl) (by decide) wd_54 rfl ?_
  refine ev_put [.ref (a + 1), .null, .int 0] (ev_dt dt_Contest_init_0 5 rfl) p_Contest_9_5 ((ev_up_n (by omega)).trans ho) rfl rfl rfl rfl ?_
  refine ev_aload_0 (ev_dt dt_Contest_init_0 6 rfl) ?_
  refine ev_bipush (ev_dt dt_Contest_init_0 7 rfl) bi_24 ?_
  refine ev_newiE (s' := (a + 3)) (ev_dt dt_Contest_init_0 8 rfl) (by decide) wd_54 rfl ?_
  refine ev_put [.ref (a + 1), .ref (a + 2), .int 0] (ev_dt dt_Contest_init_0 9 rfl) p_Contest_15_5 ((ev_up_n (by omega)).trans ev_up_s) rfl rfl rfl rfl ?_
  refine ev_aload_0 (ev_dt dt_Contest_init_0 10 rfl) ?_
  refine ev_ic0 (ev_dt dt_Contest_init_0 11 rfl) ?_
  refine ev_put [.ref (a + 1), .ref (a + 2), .int (nI 0)] (ev_dt dt_Contest_init_0 12 rfl) p_Contest_18_5 ev_up_s rfl rfl rfl rfl ?_
  exact ev_return (ev_dt dt_Contest_init_0 13 rfl) rfl (kk _ ⟨ev_up_s, ((ev_up_n (by omega)).trans ((ev_up_n (by omega)).trans ((ev_up_n (by omega)).trans ((ev_up_n (by omega)).trans ev_up_s)))), ((ev_up_n (by omega)).trans ((ev_up_n (by omega)).trans ev_up_s))⟩ (fun q hq => (ev_up_n (by omega)).trans ((ev_up_n (by omega)).trans ((ev_up_n (by omega)).trans ((ev_up_n (by omega)).trans ((ev_up_n (by omega)).trans (rfl)))))))
theorem t_Rows_init {a : Nat} (ho : h a = some (oB 1 [.null, .null, .int 0, .int 0])) (kk : ∀ h', RwAt E a 0 0 (fun _ => nI 0) (fun _ => (fun _ => nI 0)) h' → fI a 27 h h' → Q (.returned none) h' (a + 27) k n) : Ev E m_Rows_init (d + 1) 0 [some (.ref a)] [] h (a + 1) (k + 26) (n + 144) Q := by
  refine ev_aload_0 (ev_dt dt_Rows_init_0 0 rfl) ?_
  refine ev_obj (ev_dt dt_Rows_init_0 1 rfl) o_Rows_3 rfl ?_
  refine ev_aload_0 (ev_dt dt_Rows_init_0 2 rfl) ?_
  refine ev_bipush (ev_dt dt_Rows_init_0 3 rfl) bi_24 ?_
  refine ev_newiE (s' := (a + 2)) (ev_dt dt_Rows_init_0 4 rfl) (by decide) wd_54 rfl ?_
  refine ev_put [.ref (a + 1), .null, .int 0, .int 0] (ev_dt dt_Rows_init_0 5 rfl) p_Rows_9_1 ((ev_up_n (by omega)).trans ho) rfl rfl rfl rfl ?_
  refine ev_aload_0 (ev_dt dt_Rows_init_0 6 rfl) ?_
  refine ev_bipush (ev_dt dt_Rows_init_0 7 rfl) bi_24 ?_
  refine ev_ic4 (ev_dt dt_Rows_init_0 8 rfl) ?_
  refine ev_mna (N := 24) (K := 4) (ev_dt dt_Rows_init_0 9 rfl) wd_35 wd_36 wd_54 (by decide) (by decide) ?_
  have hro : ∀ x, x < a + 3 → ev_upr (ev_up (ev_up (ev_up h (a + 1) (iA E 24 (fun _ => nI 0))) a (oB 1 [.ref (a + 1), .null, .int 0, .int 0])) (a + 2) (rA E 5 24 (fun i => if i < 24 then some (a + 2 + 1 + i) else none))) (a + 2 + 1) 24 (iA E 4 (fun _ => nI 0)) x = ev_up (ev_up (ev_up h (a + 1) (iA E 24 (fun _ => nI 0))) a (oB 1 [.ref (a + 1), .null, .int 0, .int 0])) (a + 2) (rA E 5 24 (fun i => if i < 24 then some (a + 2 + 1 + i) else none)) x := fun x hx => if_neg (by omega)
  have hri : ∀ i, i < 24 → ev_upr (ev_up (ev_up (ev_up h (a + 1) (iA E 24 (fun _ => nI 0))) a (oB 1 [.ref (a + 1), .null, .int 0, .int 0])) (a + 2) (rA E 5 24 (fun i => if i < 24 then some (a + 2 + 1 + i) else none))) (a + 2 + 1) 24 (iA E 4 (fun _ => nI 0)) (a + 3 + i) = some (iA E 4 (fun _ => nI 0)) := fun i hi => if_pos (by omega)
  have hrf : fI a 27 (ev_up (ev_up h (a + 1) (iA E 24 (fun _ => nI 0))) a (oB 1 [.ref (a + 1), .null, .int 0, .int 0])) (ev_upr (ev_up (ev_up (ev_up h (a + 1) (iA E 24 (fun _ => nI 0))) a (oB 1 [.ref (a + 1), .null, .int 0, .int 0])) (a + 2) (rA E 5 24 (fun i => if i < 24 then some (a + 2 + 1 + i) else none))) (a + 2 + 1) 24 (iA E 4 (fun _ => nI 0))) := fun q hq => (if_neg (by omega)).trans (ev_up_n (by omega))
  generalize ev_upr (ev_up (ev_up (ev_up h (a + 1) (iA E 24 (fun _ => nI 0))) a (oB 1 [.ref (a + 1), .null, .int 0, .int 0])) (a + 2) (rA E 5 24 (fun i => if i < 24 then some (a + 2 + 1 + i) else none))) (a + 2 + 1) 24 (iA E 4 (fun _ => nI 0)) = g at hro hri hrf ⊢
  have hg0 : g a = some (oB 1 [.ref (a + 1), .null, .int 0, .int 0]) := (hro a (by omega)).trans ((ev_up_n (by omega)).trans ev_up_s)
  have hg1 : g (a + 1) = some (iA E 24 (fun _ => nI 0)) := (hro (a + 1) (by omega)).trans ((ev_up_n (by omega)).trans ((ev_up_n (by omega)).trans ev_up_s))
  have hg2 : g (a + 2) = some (rA E 5 24 (rwf a)) := (hro (a + 2) (by omega)).trans ev_up_s
  refine ev_put [.ref (a + 1), .ref (a + 2), .int 0, .int 0] (ev_dt dt_Rows_init_0 10 rfl) p_Rows_17_1 hg0 rfl rfl rfl rfl ?_
  refine ev_aload_0 (ev_dt dt_Rows_init_0 11 rfl) ?_
  refine ev_ic0 (ev_dt dt_Rows_init_0 12 rfl) ?_
  refine ev_put [.ref (a + 1), .ref (a + 2), .int (nI 0), .int 0] (ev_dt dt_Rows_init_0 13 rfl) p_Rows_20_1 ev_up_s rfl rfl rfl rfl ?_
  refine ev_aload_0 (ev_dt dt_Rows_init_0 14 rfl) ?_
  refine ev_ic0 (ev_dt dt_Rows_init_0 15 rfl) ?_
  refine ev_put [.ref (a + 1), .ref (a + 2), .int (nI 0), .int (nI 0)] (ev_dt dt_Rows_init_0 16 rfl) p_Rows_24_1 ev_up_s rfl rfl rfl rfl ?_
  exact ev_return (ev_dt dt_Rows_init_0 17 rfl) rfl (kk _ ⟨ev_up_s, (ev_up_n (by omega)).trans ((ev_up_n (by omega)).trans ((ev_up_n (by omega)).trans (hg1))), (ev_up_n (by omega)).trans ((ev_up_n (by omega)).trans ((ev_up_n (by omega)).trans (hg2))), fun i hi => (ev_up_n (by omega)).trans ((ev_up_n (by omega)).trans ((ev_up_n (by omega)).trans (hri i hi)))⟩ (fun q hq => (ev_up_n (by omega)).trans ((ev_up_n (by omega)).trans ((ev_up_n (by omega)).trans ((hrf q hq).trans ((ev_up_n (by omega)).trans ((ev_up_n (by omega)).trans (rfl))))))))
/-- a question at a: node, conditions, current, last read, alterations seen -/
def QnAt (E : ev_E) (a : Nat) (nd : Value) (c : Nat) (on op th : Nat → Int32) (c1 : Nat) (f1 : Nat → Int32) (c2 : Nat) (f2 : Nat → Int32) (se : Int32) (h : ev_h) : Prop := h a = some (oB 4 [nd, .ref (a + 1), .ref (a + 5), .ref (a + 7), .int se]) ∧ CdAt E (a + 1) c on op th h ∧ LsAt E (a + 5) c1 f1 h ∧ LsAt E (a + 7) c2 f2 h
theorem QnAt.kept {a : Nat} {nd : Value} {c : Nat} {on op th : Nat → Int32} {c1 : Nat} {f1 : Nat → Int32} {c2 : Nat} {f2 : Nat → Int32} {se : Int32} {h h' : ev_h} (hL : QnAt E a nd c on op th c1 f1 c2 f2 se h) (hq : ∀ q, a ≤ q → q < a + 9 → h' q = h q) : QnAt E a nd c on op th c1 f1 c2 f2 se h' :=
  ⟨(hq a (by omega) (by omega)).trans hL.1, hL.2.1.kept (fun q h1 h2 => hq q (by omega) (by omega)), hL.2.2.1.kept (fun q h1 h2 => hq q (by omega) (by omega)), hL.2.2.2.kept (fun q h1 h2 => hq q (by omega) (by omega))⟩
theorem t_Question_init {a : Nat} (ho : h a = some (oB 4 [.null, .null, .null, .null, .int 0])) (kk : ∀ h', QnAt E a .null 0 (fun _ => nI 0) (fun _ => nI 0) (fun _ => nI 0) 0 (fun _ => nI 0) 0 (fun _ => nI 0) (-1) h' → fI a 9 h h' → Q (.returned none) h' (a + 9) k n) : Ev E m_Question_init (d + 2) 0 [some (.ref a)] [] h (a + 1) (k + 8) (n + 68) Q := by
  refine ev_aload_0 (ev_dt dt_Question_init_0 0 rfl) ?_
  refine ev_obj (ev_dt dt_Question_init_0 1 rfl) o_Question_3 rfl ?_
  refine ev_aload_0 (ev_dt dt_Question_init_0 2 rfl) ?_
  refine ev_null (ev_dt dt_Question_init_0 3 rfl) ?_
  refine ev_put [.null, .null, .null, .null, .int 0] (ev_dt dt_Question_init_0 4 rfl) p_Question_9_4 ho rfl rfl rfl rfl ?_
  refine ev_aload_0 (ev_dt dt_Question_init_0 5 rfl) ?_
  refine ev_newE (N := 4) (s' := (a + 2)) (ev_dt dt_Question_init_0 6 rfl) n_Question_15 rfl ?_
  refine ev_dup (ev_dt dt_Question_init_0 7 rfl) rfl ?_
  refine ev_callI (a := (a + 1)) (ev_dt dt_Question_init_0 8 rfl) i_Question_17 [] rfl np_Conditions_init rfl (ev_lk_of (j := 0) rfl rfl) (t_Conditions_init (d := d) ev_up_s (fun h1 hC1 hf1 => ev_r0 ?_))
  have ho1 : h1 a = some (oB 4 [.null, .null, .null, .null, .int 0]) := (hf1 _ (by omega)).trans ((ev_up_n (by omega)).trans ev_up_s)
  have hF1 : fI a 9 h h1 := fun q hq => (hf1 q (by omega)).trans ((ev_up_n (by omega)).trans ((ev_up_n (by omega)).trans (rfl)))
  refine ev_put [.null, .ref (a + 1), .null, .null, .int 0] (ev_dt dt_Question_init_0 9 rfl) p_Question_18_4 ho1 rfl rfl rfl rfl ?_
  refine ev_aload_0 (ev_dt dt_Question_init_0 10 rfl) ?_
  refine ev_newE (N := 2) (s' := (a + 6)) (ev_dt dt_Question_init_0 11 rfl) n_Question_22 rfl ?_
  refine ev_dup (ev_dt dt_Question_init_0 12 rfl) rfl ?_
  refine ev_callI (a := (a + 5)) (ev_dt dt_Question_init_0 13 rfl) i_Question_24 [] rfl np_RowList_init rfl (ev_lk_of (j := 0) rfl rfl) (t_RowList_init (d := d) ev_up_s (fun h2 hL2 hf2 => ev_r0 ?_))
  have ho2 : h2 a = some (oB 4 [.null, .ref (a + 1), .null, .null, .int 0]) := (hf2 _ (by omega)).trans ((ev_up_n (by omega)).trans ev_up_s)
  have hF2 : fI a 9 h h2 := fun q hq => (hf2 q (by omega)).trans ((ev_up_n (by omega)).trans ((ev_up_n (by omega)).trans (hF1 q hq)))
  replace hC1 := hC1.kept (h' := h2) (fun q q1 q2 => (hf2 q (by omega)).trans ((ev_up_n (by omega)).trans ((ev_up_n (by omega)).trans (rfl))))
  refine ev_put [.null, .ref (a + 1), .ref (a + 5), .null, .int 0] (ev_dt dt_Question_init_0 14 rfl) p_Question_25_4 ho2 rfl rfl rfl rfl ?_
  refine ev_aload_0 (ev_dt dt_Question_init_0 15 rfl) ?_
  refine ev_newE (N := 2) (s' := (a + 8)) (ev_dt dt_Question_init_0 16 rfl) n_Question_22 rfl ?_
  refine ev_dup (ev_dt dt_Question_init_0 17 rfl) rfl ?_
  refine ev_callI (a := (a + 7)) (ev_dt dt_Question_init_0 18 rfl) i_Question_24 [] rfl np_RowList_init rfl (ev_lk_of (j := 0) rfl rfl) (t_RowList_init (d := d) ev_up_s (fun h3 hL3 hf3 => ev_r0 ?_))
  have ho3 : h3 a = some (oB 4 [.null, .ref (a + 1), .ref (a + 5), .null, .int 0]) := (hf3 _ (by omega)).trans ((ev_up_n (by omega)).trans ev_up_s)
  have hF3 : fI a 9 h h3 := fun q hq => (hf3 q (by omega)).trans ((ev_up_n (by omega)).trans ((ev_up_n (by omega)).trans (hF2 q hq)))
  replace hC1 := hC1.kept (h' := h3) (fun q q1 q2 => (hf3 q (by omega)).trans ((ev_up_n (by omega)).trans ((ev_up_n (by omega)).trans (rfl))))
  replace hL2 := hL2.kept (h' := h3) (fun q q1 q2 => (hf3 q (by omega)).trans ((ev_up_n (by omega)).trans ((ev_up_n (by omega)).trans (rfl))))
  refine ev_put [.null, .ref (a + 1), .ref (a + 5), .ref (a + 7), .int 0] (ev_dt dt_Question_init_0 19 rfl) p_Question_29_4 ho3 rfl rfl rfl rfl ?_
  refine ev_aload_0 (ev_dt dt_Question_init_0 20 rfl) ?_
  refine ev_icm (ev_dt dt_Question_init_0 21 rfl) ?_
  refine ev_put [.null, .ref (a + 1), .ref (a + 5), .ref (a + 7), .int (-1)] (ev_dt dt_Question_init_0 22 rfl) p_Question_32_4 ev_up_s rfl rfl rfl rfl ?_
  exact ev_return (ev_dt dt_Question_init_0 23 rfl) rfl (kk _ ⟨ev_up_s, hC1.kept (fun q q1 q2 => (ev_up_n (by omega)).trans ((ev_up_n (by omega)).trans (rfl))), hL2.kept (fun q q1 q2 => (ev_up_n (by omega)).trans ((ev_up_n (by omega)).trans (rfl))), hL3.kept (fun q q1 q2 => (ev_up_n (by omega)).trans ((ev_up_n (by omega)).trans (rfl)))⟩ (fun q hq => (ev_up_n (by omega)).trans ((ev_up_n (by omega)).trans (hF3 q hq))))
theorem t_Node_init_6 {a : Nat} {y1 y2 y3 y4 : Int32} {x0 x1 x2 x3 x4 x5 x6 : Value} (ho : h a = some (oB 6 [x0, x1, x2, x3, x4, x5, x6])) (kk : Q (.returned none) (ev_up h a (oB 6 [x0, x1, x2, .int y1, .int y2, .int y3, .int y4])) sz k n) : Ev E m_Node_init (d + 1) 0 [some (.ref a), some (.int y1), some (.int y2), some (.int y3), some (.int y4)] [] h sz k n Q := by
  refine ev_aload_0 (ev_dt dt_Node_init_0 0 rfl) ?_
  refine ev_obj (ev_dt dt_Node_init_0 1 rfl) o_Node_1 rfl ?_
  refine ev_aload_0 (ev_dt dt_Node_init_0 2 rfl) ?_
  refine ev_iload_1 (ev_dt dt_Node_init_0 3 rfl) ?_
  refine ev_put [x0, x1, x2, .int y1, x4, x5, x6] (ev_dt dt_Node_init_0 4 rfl) p_Node_7_6 ho rfl rfl rfl rfl ?_
  refine ev_aload_0 (ev_dt dt_Node_init_0 5 rfl) ?_
  refine ev_iload_2 (ev_dt dt_Node_init_0 6 rfl) ?_
  refine ev_put [x0, x1, x2, .int y1, .int y2, x5, x6] (ev_dt dt_Node_init_0 7 rfl) p_Node_13_6 ev_up_s rfl rfl rfl rfl ?_
  refine ev_aload_0 (ev_dt dt_Node_init_0 8 rfl) ?_
  refine ev_iload_3 (ev_dt dt_Node_init_0 9 rfl) ?_
  refine ev_put [x0, x1, x2, .int y1, .int y2, .int y3, x6] (ev_dt dt_Node_init_0 10 rfl) p_Node_16_6 ev_up_s rfl rfl rfl rfl ?_
  refine ev_aload_0 (ev_dt dt_Node_init_0 11 rfl) ?_
  refine ev_iload_4 (ev_dt dt_Node_init_0 12 rfl) ?_
  refine ev_put [x0, x1, x2, .int y1, .int y2, .int y3, .int y4] (ev_dt dt_Node_init_0 13 rfl) p_Node_19_6 ev_up_s rfl rfl rfl rfl ?_
  simp only [ev_up_up]
  exact ev_return (ev_dt dt_Node_init_0 14 rfl) rfl kk
theorem t_Order_init_6 {a y3 : Nat} {y1 y2 : Int32} {x0 x1 x2 x3 x4 x5 x6 : Value} (ho : h a = some (oB 6 [x0, x1, x2, x3, x4, x5, x6])) (kk : Q (.returned none) (ev_up h a (oB 6 [x0, x1, .int (nI y3), .int y1, .int y2, .int (nI 1), .int (nI 1 <<< (nI y3 &&& 31))])) sz k n) : Ev E m_Order_init (d + 2) 0 [some (.ref a), some (.int y1), some (.int y2), some (.int (nI y3))] [] h sz k n Q := by
  refine ev_aload_0 (ev_dt dt_Order_init_0 0 rfl) ?_
  refine ev_iload_1 (ev_dt dt_Order_init_0 1 rfl) ?_
  refine ev_iload_2 (ev_dt dt_Order_init_0 2 rfl) ?_
  refine ev_ic1 (ev_dt dt_Order_init_0 3 rfl) ?_
  refine ev_ic1 (ev_dt dt_Order_init_0 4 rfl) ?_
  refine ev_iload_3 (ev_dt dt_Order_init_0 5 rfl) ?_
  refine ev_ishl (ev_dt dt_Order_init_0 6 rfl) rfl ?_
  refine ev_callI (a := a) (ev_dt dt_Order_init_0 7 rfl) i_Order_3 [.int y1, .int y2, .int (nI 1), .int ((nI 1) <<< ((nI y3) &&& 31))] rfl np_Node_init rfl (ev_lk_of (j := 0) rfl rfl) (t_Node_init_6 (d := d) ho (ev_r0 ?_))
  refine ev_aload_0 (ev_dt dt_Order_init_0 8 rfl) ?_
  refine ev_iload_3 (ev_dt dt_Order_init_0 9 rfl) ?_
  refine ev_put [x0, x1, .int (nI y3), .int y1, .int y2, .int (nI 1), .int (nI 1 <<< (nI y3 &&& 31))] (ev_dt dt_Order_init_0 10 rfl) p_Order_9_6 ev_up_s rfl rfl rfl rfl ?_
  rw [ev_up_up]
  exact ev_return (ev_dt dt_Order_init_0 11 rfl) rfl kk
theorem t_Node_init_7 {a : Nat} {y1 y2 y3 y4 : Int32} {x0 x1 x2 x3 x4 x5 : Value} (ho : h a = some (oB 7 [x0, x1, x2, x3, x4, x5])) (kk : Q (.returned none) (ev_up h a (oB 7 [x0, x1, .int y1, .int y2, .int y3, .int y4])) sz k n) : Ev E m_Node_init (d + 1) 0 [some (.ref a), some (.int y1), some (.int y2), some (.int y3), some (.int y4)] [] h sz k n Q := by
  refine ev_aload_0 (ev_dt dt_Node_init_0 0 rfl) ?_
  refine ev_obj (ev_dt dt_Node_init_0 1 rfl) o_Node_1 rfl ?_
  refine ev_aload_0 (ev_dt dt_Node_init_0 2 rfl) ?_
  refine ev_iload_1 (ev_dt dt_Node_init_0 3 rfl) ?_
  refine ev_put [x0, x1, .int y1, x3, x4, x5] (ev_dt dt_Node_init_0 4 rfl) p_Node_7_7 ho rfl rfl rfl rfl ?_
  refine ev_aload_0 (ev_dt dt_Node_init_0 5 rfl) ?_
  refine ev_iload_2 (ev_dt dt_Node_init_0 6 rfl) ?_
  refine ev_put [x0, x1, .int y1, .int y2, x4, x5] (ev_dt dt_Node_init_0 7 rfl) p_Node_13_7 ev_up_s rfl rfl rfl rfl ?_
  refine ev_aload_0 (ev_dt dt_Node_init_0 8 rfl) ?_
  refine ev_iload_3 (ev_dt dt_Node_init_0 9 rfl) ?_
  refine ev_put [x0, x1, .int y1, .int y2, .int y3, x5] (ev_dt dt_Node_init_0 10 rfl) p_Node_16_7 ev_up_s rfl rfl rfl rfl ?_
  refine ev_aload_0 (ev_dt dt_Node_init_0 11 rfl) ?_
  refine ev_iload_4 (ev_dt dt_Node_init_0 12 rfl) ?_
  refine ev_put [x0, x1, .int y1, .int y2, .int y3, .int y4] (ev_dt dt_Node_init_0 13 rfl) p_Node_19_7 ev_up_s rfl rfl rfl rfl ?_
  simp only [ev_up_up]
  exact ev_return (ev_dt dt_Node_init_0 14 rfl) rfl kk
theorem t_Order_init_7 {a y3 : Nat} {y1 y2 : Int32} {x0 x1 x2 x3 x4 x5 : Value} (ho : h a = some (oB 7 [x0, x1, x2, x3, x4, x5])) (kk : Q (.returned none) (ev_up h a (oB 7 [x0, .int (nI y3), .int y1, .int y2, .int (nI 1), .int (nI 1 <<< (nI y3 &&& 31))])) sz k n) : Ev E m_Order_init (d + 2) 0 [some (.ref a), some (.int y1), some (.int y2), some (.int (nI y3))] [] h sz k n Q := by
  refine ev_aload_0 (ev_dt dt_Order_init_0 0 rfl) ?_
  refine ev_iload_1 (ev_dt dt_Order_init_0 1 rfl) ?_
  refine ev_iload_2 (ev_dt dt_Order_init_0 2 rfl) ?_
  refine ev_ic1 (ev_dt dt_Order_init_0 3 rfl) ?_
  refine ev_ic1 (ev_dt dt_Order_init_0 4 rfl) ?_
  refine ev_iload_3 (ev_dt dt_Order_init_0 5 rfl) ?_
  refine ev_ishl (ev_dt dt_Order_init_0 6 rfl) rfl ?_
  refine ev_callI (a := a) (ev_dt dt_Order_init_0 7 rfl) i_Order_3 [.int y1, .int y2, .int (nI 1), .int ((nI 1) <<< ((nI y3) &&& 31))] rfl np_Node_init rfl (ev_lk_of (j := 0) rfl rfl) (t_Node_init_7 (d := d) ho (ev_r0 ?_))
  refine ev_aload_0 (ev_dt dt_Order_init_0 8 rfl) ?_
  refine ev_iload_3 (ev_dt dt_Order_init_0 9 rfl) ?_
  refine ev_put [x0, .int (nI y3), .int y1, .int y2, .int (nI 1), .int (nI 1 <<< (nI y3 &&& 31))] (ev_dt dt_Order_init_0 10 rfl) p_Order_9_7 ev_up_s rfl rfl rfl rfl ?_
  rw [ev_up_up]
  exact ev_return (ev_dt dt_Order_init_0 11 rfl) rfl kk
theorem t_Node_init_8 {a : Nat} {y1 y2 y3 y4 : Int32} {x0 x1 x2 x3 x4 x5 x6 : Value} (ho : h a = some (oB 8 [x0, x1, x2, x3, x4, x5, x6])) (kk : Q (.returned none) (ev_up h a (oB 8 [x0, x1, x2, .int y1, .int y2, .int y3, .int y4])) sz k n) : Ev E m_Node_init (d + 1) 0 [some (.ref a), some (.int y1), some (.int y2), some (.int y3), some (.int y4)] [] h sz k n Q := by
  refine ev_aload_0 (ev_dt dt_Node_init_0 0 rfl) ?_
  refine ev_obj (ev_dt dt_Node_init_0 1 rfl) o_Node_1 rfl ?_
  refine ev_aload_0 (ev_dt dt_Node_init_0 2 rfl) ?_
  refine ev_iload_1 (ev_dt dt_Node_init_0 3 rfl) ?_
  refine ev_put [x0, x1, x2, .int y1, x4, x5, x6] (ev_dt dt_Node_init_0 4 rfl) p_Node_7_8 ho rfl rfl rfl rfl ?_
  refine ev_aload_0 (ev_dt dt_Node_init_0 5 rfl) ?_
  refine ev_iload_2 (ev_dt dt_Node_init_0 6 rfl) ?_
  refine ev_put [x0, x1, x2, .int y1, .int y2, x5, x6] (ev_dt dt_Node_init_0 7 rfl) p_Node_13_8 ev_up_s rfl rfl rfl rfl ?_
  refine ev_aload_0 (ev_dt dt_Node_init_0 8 rfl) ?_
  refine ev_iload_3 (ev_dt dt_Node_init_0 9 rfl) ?_
  refine ev_put [x0, x1, x2, .int y1, .int y2, .int y3, x6] (ev_dt dt_Node_init_0 10 rfl) p_Node_16_8 ev_up_s rfl rfl rfl rfl ?_
  refine ev_aload_0 (ev_dt dt_Node_init_0 11 rfl) ?_
  refine ev_iload_4 (ev_dt dt_Node_init_0 12 rfl) ?_
  refine ev_put [x0, x1, x2, .int y1, .int y2, .int y3, .int y4] (ev_dt dt_Node_init_0 13 rfl) p_Node_19_8 ev_up_s rfl rfl rfl rfl ?_
  simp only [ev_up_up]
  exact ev_return (ev_dt dt_Node_init_0 14 rfl) rfl kk
theorem t_Order_init_8 {a y3 : Nat} {y1 y2 : Int32} {x0 x1 x2 x3 x4 x5 x6 : Value} (ho : h a = some (oB 8 [x0, x1, x2, x3, x4, x5, x6])) (kk : Q (.returned none) (ev_up h a (oB 8 [x0, x1, .int (nI y3), .int y1, .int y2, .int (nI 1), .int (nI 1 <<< (nI y3 &&& 31))])) sz k n) : Ev E m_Order_init (d + 2) 0 [some (.ref a), some (.int y1), some (.int y2), some (.int (nI y3))] [] h sz k n Q := by
  refine ev_aload_0 (ev_dt dt_Order_init_0 0 rfl) ?_
  refine ev_iload_1 (ev_dt dt_Order_init_0 1 rfl) ?_
  refine ev_iload_2 (ev_dt dt_Order_init_0 2 rfl) ?_
  refine ev_ic1 (ev_dt dt_Order_init_0 3 rfl) ?_
  refine ev_ic1 (ev_dt dt_Order_init_0 4 rfl) ?_
  refine ev_iload_3 (ev_dt dt_Order_init_0 5 rfl) ?_
  refine ev_ishl (ev_dt dt_Order_init_0 6 rfl) rfl ?_
  refine ev_callI (a := a) (ev_dt dt_Order_init_0 7 rfl) i_Order_3 [.int y1, .int y2, .int (nI 1), .int ((nI 1) <<< ((nI y3) &&& 31))] rfl np_Node_init rfl (ev_lk_of (j := 0) rfl rfl) (t_Node_init_8 (d := d) ho (ev_r0 ?_))
  refine ev_aload_0 (ev_dt dt_Order_init_0 8 rfl) ?_
  refine ev_iload_3 (ev_dt dt_Order_init_0 9 rfl) ?_
  refine ev_put [x0, x1, .int (nI y3), .int y1, .int y2, .int (nI 1), .int (nI 1 <<< (nI y3 &&& 31))] (ev_dt dt_Order_init_0 10 rfl) p_Order_9_8 ev_up_s rfl rfl rfl rfl ?_
  rw [ev_up_up]
  exact ev_return (ev_dt dt_Order_init_0 11 rfl) rfl kk
theorem t_Node_init_9 {a : Nat} {y1 y2 y3 y4 : Int32} {x0 x1 x2 x3 x4 x5 : Value} (ho : h a = some (oB 9 [x0, x1, x2, x3, x4, x5])) (kk : Q (.returned none) (ev_up h a (oB 9 [x0, x1, .int y1, .int y2, .int y3, .int y4])) sz k n) : Ev E m_Node_init (d + 1) 0 [some (.ref a), some (.int y1), some (.int y2), some (.int y3), some (.int y4)] [] h sz k n Q := by
  refine ev_aload_0 (ev_dt dt_Node_init_0 0 rfl) ?_
  refine ev_obj (ev_dt dt_Node_init_0 1 rfl) o_Node_1 rfl ?_
  refine ev_aload_0 (ev_dt dt_Node_init_0 2 rfl) ?_
  refine ev_iload_1 (ev_dt dt_Node_init_0 3 rfl) ?_
  refine ev_put [x0, x1, .int y1, x3, x4, x5] (ev_dt dt_Node_init_0 4 rfl) p_Node_7_9 ho rfl rfl rfl rfl ?_
  refine ev_aload_0 (ev_dt dt_Node_init_0 5 rfl) ?_
  refine ev_iload_2 (ev_dt dt_Node_init_0 6 rfl) ?_
  refine ev_put [x0, x1, .int y1, .int y2, x4, x5] (ev_dt dt_Node_init_0 7 rfl) p_Node_13_9 ev_up_s rfl rfl rfl rfl ?_
  refine ev_aload_0 (ev_dt dt_Node_init_0 8 rfl) ?_
  refine ev_iload_3 (ev_dt dt_Node_init_0 9 rfl) ?_
  refine ev_put [x0, x1, .int y1, .int y2, .int y3, x5] (ev_dt dt_Node_init_0 10 rfl) p_Node_16_9 ev_up_s rfl rfl rfl rfl ?_
  refine ev_aload_0 (ev_dt dt_Node_init_0 11 rfl) ?_
  refine ev_iload_4 (ev_dt dt_Node_init_0 12 rfl) ?_
  refine ev_put [x0, x1, .int y1, .int y2, .int y3, .int y4] (ev_dt dt_Node_init_0 13 rfl) p_Node_19_9 ev_up_s rfl rfl rfl rfl ?_
  simp only [ev_up_up]
  exact ev_return (ev_dt dt_Node_init_0 14 rfl) rfl kk
theorem t_ValueOrder_init {a kd i c : Nat} {y4 y5 : Int32} (ho : h a = some (oB 6 [.int 0, .int 0, .int 0, .int 0, .int 0, .int 0, .int 0])) (kk : Q (.returned none) (ev_up h a (oB 6 [.int y4, .int y5, .int (nI c), .int (nI kd), .int (nI i), .int (nI 1), .int (nI 1 <<< (nI c &&& 31))])) sz k n) : Ev E m_ValueOrder_init (d + 3) 0 [some (.ref a), some (.int (nI kd)), some (.int (nI i)), some (.int (nI c)), some (.int y4), some (.int y5)] [] h sz k n Q := by
  refine ev_aload_0 (ev_dt dt_ValueOrder_init_0 0 rfl) ?_
  refine ev_iload_1 (ev_dt dt_ValueOrder_init_0 1 rfl) ?_
  refine ev_iload_2 (ev_dt dt_ValueOrder_init_0 2 rfl) ?_
  refine ev_iload_3 (ev_dt dt_ValueOrder_init_0 3 rfl) ?_
  refine ev_callI (a := a) (ev_dt dt_ValueOrder_init_0 4 rfl) i_ValueOrder_3 [.int (nI kd), .int (nI i), .int (nI c)] rfl np_Order_init rfl (ev_lk_of (j := 0) rfl rfl) (t_Order_init_6 (d := d) ho (ev_r0 ?_))
  refine ev_aload_0 (ev_dt dt_ValueOrder_init_0 5 rfl) ?_
  refine ev_iload_4 (ev_dt dt_ValueOrder_init_0 6 rfl) ?_
  refine ev_put [.int y4, .int 0, .int (nI c), .int (nI kd), .int (nI i), .int (nI 1), .int (nI 1 <<< (nI c &&& 31))] (ev_dt dt_ValueOrder_init_0 7 rfl) p_ValueOrder_9_6 ev_up_s rfl rfl rfl rfl ?_
  refine ev_aload_0 (ev_dt dt_ValueOrder_init_0 8 rfl) ?_
  refine ev_iload_5 (ev_dt dt_ValueOrder_init_0 9 rfl) ?_
  refine ev_put [.int y4, .int y5, .int (nI c), .int (nI kd), .int (nI i), .int (nI 1), .int (nI 1 <<< (nI c &&& 31))] (ev_dt dt_ValueOrder_init_0 10 rfl) p_ValueOrder_15_6 ev_up_s rfl rfl rfl rfl ?_
  simp only [ev_up_up]
  exact ev_return (ev_dt dt_ValueOrder_init_0 11 rfl) rfl kk
theorem t_Graph_init {a i c : Nat} (ho : h a = some (oB 8 [.null, .null, .int 0, .int 0, .int 0, .int 0, .int 0])) (kk : ∀ h', h' a = some (oB 8 [.ref (a + 1), .ref (a + 2), .int (nI c), .int (nI 5), .int (nI i), .int (nI 1), .int (nI 1 <<< (nI c &&& 31))]) → h' (a + 1) = some (iA E 10 (fun _ => nI 0)) → h' (a + 2) = some (iA E 10 (fun _ => nI 0)) → fI a 3 h h' → Q (.returned none) h' (a + 3) k n) : Ev E m_Graph_init (d + 3) 0 [some (.ref a), some (.int (nI i)), some (.int (nI c))] [] h (a + 1) (k + 2) (n + 20) Q := by
  refine ev_aload_0 (ev_dt dt_Graph_init_0 0 rfl) ?_
  refine ev_ic5 (ev_dt dt_Graph_init_0 1 rfl) ?_
  refine ev_iload_1 (ev_dt dt_Graph_init_0 2 rfl) ?_
  refine ev_iload_2 (ev_dt dt_Graph_init_0 3 rfl) ?_
  refine ev_callI (a := a) (ev_dt dt_Graph_init_0 4 rfl) i_Graph_3 [.int (nI 5), .int (nI i), .int (nI c)] rfl np_Order_init rfl (ev_lk_of (j := 0) rfl rfl) (t_Order_init_8 (d := d) ho (ev_r0 ?_))
  refine ev_aload_0 (ev_dt dt_Graph_init_0 5 rfl) ?_
  refine ev_bipush (ev_dt dt_Graph_init_0 6 rfl) bi_10 ?_
  refine ev_newiE (s' := (a + 2)) (ev_dt dt_Graph_init_0 7 rfl) (by decide) wd_54 rfl ?_
  refine ev_put [.ref (a + 1), .null, .int (nI c), .int (nI 5), .int (nI i), .int (nI 1), .int (nI 1 <<< (nI c &&& 31))] (ev_dt dt_Graph_init_0 8 rfl) p_Graph_9_8 ((ev_up_n (by omega)).trans ev_up_s) rfl rfl rfl rfl ?_
  refine ev_aload_0 (ev_dt dt_Graph_init_0 9 rfl) ?_
  refine ev_bipush (ev_dt dt_Graph_init_0 10 rfl) bi_10 ?_
  refine ev_newiE (s' := (a + 3)) (ev_dt dt_Graph_init_0 11 rfl) (by decide) wd_54 rfl ?_
  refine ev_put [.ref (a + 1), .ref (a + 2), .int (nI c), .int (nI 5), .int (nI i), .int (nI 1), .int (nI 1 <<< (nI c &&& 31))] (ev_dt dt_Graph_init_0 12 rfl) p_Graph_15_8 ((ev_up_n (by omega)).trans ev_up_s) rfl rfl rfl rfl ?_
  exact ev_return (ev_dt dt_Graph_init_0 13 rfl) rfl (kk _ ev_up_s ((ev_up_n (by omega)).trans ((ev_up_n (by omega)).trans ((ev_up_n (by omega)).trans ev_up_s))) ((ev_up_n (by omega)).trans ev_up_s) (fun q hq => (ev_up_n (by omega)).trans ((ev_up_n (by omega)).trans ((ev_up_n (by omega)).trans ((ev_up_n (by omega)).trans ((ev_up_n (by omega)).trans (rfl)))))))
theorem t_Layers_init {a i c : Nat} (ho : h a = some (oB 7 [.null, .int 0, .int 0, .int 0, .int 0, .int 0])) (kk : ∀ h' f, h' a = some (oB 7 [.ref (a + 1), .int (nI c), .int (nI 4), .int (nI i), .int (nI 1), .int (nI 1 <<< (nI c &&& 31))]) → h' (a + 1) = some (iA E 10 f) → (∀ v, v < 10 → f v = -1) → fI a 2 h h' → Q (.returned none) h' (a + 2) k n) : Ev E m_Layers_init (d + 3) 0 [some (.ref a), some (.int (nI i)), some (.int (nI c)), none] [] h (a + 1) (k + 1) (n + 10) Q := by
  refine ev_aload_0 (ev_dt dt_Layers_init_0 0 rfl) ?_
  refine ev_ic4 (ev_dt dt_Layers_init_0 1 rfl) ?_
  refine ev_iload_1 (ev_dt dt_Layers_init_0 2 rfl) ?_
  refine ev_iload_2 (ev_dt dt_Layers_init_0 3 rfl) ?_
  refine ev_callI (a := a) (ev_dt dt_Layers_init_0 4 rfl) i_Layers_3 [.int (nI 4), .int (nI i), .int (nI c)] rfl np_Order_init rfl (ev_lk_of (j := 0) rfl rfl) (t_Order_init_7 (d := d) ho (ev_r0 ?_))
  refine ev_aload_0 (ev_dt dt_Layers_init_0 5 rfl) ?_
  refine ev_bipush (ev_dt dt_Layers_init_0 6 rfl) bi_10 ?_
  refine ev_newiE (s' := (a + 2)) (ev_dt dt_Layers_init_0 7 rfl) (by decide) wd_54 rfl ?_
  refine ev_put [.ref (a + 1), .int (nI c), .int (nI 4), .int (nI i), .int (nI 1), .int (nI 1 <<< (nI c &&& 31))] (ev_dt dt_Layers_init_0 8 rfl) p_Layers_9_7 ((ev_up_n (by omega)).trans ev_up_s) rfl rfl rfl rfl ?_
  refine ev_ic0 (ev_dt dt_Layers_init_0 9 rfl) ?_
  refine ev_istore_3 (ev_dt dt_Layers_init_0 10 rfl) (by decide) rfl ?_
  have h0 : (ev_up (ev_up (ev_up h a (oB 7 [.null, .int (nI c), .int (nI 4), .int (nI i), .int (nI 1), .int (nI 1 <<< (nI c &&& 31))])) (a + 1) (iA E 10 (fun _ => nI 0))) a (oB 7 [.ref (a + 1), .int (nI c), .int (nI 4), .int (nI i), .int (nI 1), .int (nI 1 <<< (nI c &&& 31))])) a = some (oB 7 [.ref (a + 1), .int (nI c), .int (nI 4), .int (nI i), .int (nI 1), .int (nI 1 <<< (nI c &&& 31))]) := ev_up_s
  have h1 : (ev_up (ev_up (ev_up h a (oB 7 [.null, .int (nI c), .int (nI 4), .int (nI i), .int (nI 1), .int (nI 1 <<< (nI c &&& 31))])) (a + 1) (iA E 10 (fun _ => nI 0))) a (oB 7 [.ref (a + 1), .int (nI c), .int (nI 4), .int (nI i), .int (nI 1), .int (nI 1 <<< (nI c &&& 31))])) (a + 1) = some (iA E 10 (fun _ => nI 0)) := ((ev_up_n (by omega)).trans ev_up_s)
  have hF : fI a 2 h (ev_up (ev_up (ev_up h a (oB 7 [.null, .int (nI c), .int (nI 4), .int (nI i), .int (nI 1), .int (nI 1 <<< (nI c &&& 31))])) (a + 1) (iA E 10 (fun _ => nI 0))) a (oB 7 [.ref (a + 1), .int (nI c), .int (nI 4), .int (nI i), .int (nI 1), .int (nI 1 <<< (nI c &&& 31))])) := (fun q hq => (ev_up_n (by omega)).trans ((ev_up_n (by omega)).trans ((ev_up_n (by omega)).trans (rfl))))
  generalize (ev_up (ev_up (ev_up h a (oB 7 [.null, .int (nI c), .int (nI 4), .int (nI i), .int (nI 1), .int (nI 1 <<< (nI c &&& 31))])) (a + 1) (iA E 10 (fun _ => nI 0))) a (oB 7 [.ref (a + 1), .int (nI c), .int (nI 4), .int (nI i), .int (nI 1), .int (nI 1 <<< (nI c &&& 31))])) = g at h0 h1 hF ⊢
  have loop : ∀ m' j (g' : ev_h) (f : Nat → Int32), j + m' = 10 → g' a = some (oB 7 [.ref (a + 1), .int (nI c), .int (nI 4), .int (nI i), .int (nI 1), .int (nI 1 <<< (nI c &&& 31))]) → g' (a + 1) = some (iA E 10 f) → (∀ v, v < j → f v = -1) → fI a 2 h g' → Ev E m_Layers_init (d + 3) 17 [some (.ref a), some (.int (nI i)), some (.int (nI c)), some (.int (nI j))] [] g' (a + 2) k n Q := by
    intro m'
    induction m' with
    | zero =>
      intro j g' f hj e0 e1 eI eF
      refine ev_iload_3 (ev_dt dt_Layers_init_0 11 rfl) ?_
      refine ev_bipush (ev_dt dt_Layers_init_0 12 rfl) bi_10 ?_
      refine ev_icmp_geT (tgt := 36) (ev_dt dt_Layers_init_0 13 rfl) (by decide) (nI_le (by omega) (by omega)) ?_
      exact ev_return (ev_dt dt_Layers_init_0 21 rfl) rfl (kk g' f e0 e1 (fun v hv => eI v (by omega)) eF)
    | succ m' ih =>
      intro j g' f hj e0 e1 eI eF
      refine ev_iload_3 (ev_dt dt_Layers_init_0 11 rfl) ?_
      refine ev_bipush (ev_dt dt_Layers_init_0 12 rfl) bi_10 ?_
      refine ev_icmp_geF (tgt := 36) (ev_dt dt_Layers_init_0 13 rfl) (by decide) (nI_ge (by omega) (by omega)) ?_
      refine ev_aload_0 (ev_dt dt_Layers_init_0 14 rfl) ?_
      refine ev_get (ev_dt dt_Layers_init_0 15 rfl) g_Layers_9_7 e0 rfl ?_
      refine ev_iload_3 (ev_dt dt_Layers_init_0 16 rfl) ?_
      refine ev_icm (ev_dt dt_Layers_init_0 17 rfl) ?_
      refine ev_iast (ev_dt dt_Layers_init_0 18 rfl) e1 (by omega) (by decide) ?_
      refine ev_inc1_3 (ev_dt dt_Layers_init_0 19 rfl) (by decide) rfl ?_
      refine ev_goto (tgt := 17) (ev_dt dt_Layers_init_0 20 rfl) (by decide) ?_
      refine ih (j + 1) _ _ (by omega) ((ev_up_n (by omega)).trans e0) ev_up_s (fun v hv => ?_) (eF.tr (fI.up (by omega) (by omega)))
      by_cases e : v = j
      · subst e; exact pk_us
      · rw [pk_un e]; exact eI v (by omega)
  exact loop 10 0 g _ (by omega) h0 h1 (fun v hv => absurd hv (Nat.not_lt_zero _)) hF
theorem t_Term_sizeOf {N : nod} {ed : Nat → Nat → Int32} {zs : Nat → Nat} {cs : Nat → Int32} {ad : Nat → Nat} {kd i j : Nat} (hk : kd < 10) (hi : NdAt E N ed zs cs ad i h) (hj : NdAt E N ed zs cs ad j h) (kk : Q (.returned (some (.int (nI (if kd = 9 then 1 + zs i else 1 + zs i + zs j))))) h sz k n) : Ev E m_Term_sizeOf d 0 [some (.int (nI kd)), some (.ref (ad i)), some (.ref (ad j))] [] h sz k n Q := by
  refine ev_iload_0 (ev_dt dt_Term_sizeOf_0 0 rfl) ?_
  refine ev_bipush (ev_dt dt_Term_sizeOf_0 1 rfl) bi_9 ?_
  refine ev_icmp_ne (tgt := 15) (ev_dt dt_Term_sizeOf_0 2 rfl) (by decide) (fun h9 => ?_) (fun h9 => ?_)
  · refine ev_ic1 (ev_dt dt_Term_sizeOf_0 8 rfl) ?_
    refine ev_aload_1 (ev_dt dt_Term_sizeOf_0 9 rfl) ?_
    refine ev_nd_size (i := i) (ev_dt dt_Term_sizeOf_0 10 rfl) g_Term_26_6 g_Term_26_7 g_Term_26_8 g_Term_26_9 hi ?_
    refine ev_addn (ev_dt dt_Term_sizeOf_0 11 rfl) ?_
    refine ev_aload_2 (ev_dt dt_Term_sizeOf_0 12 rfl) ?_
    refine ev_nd_size (i := j) (ev_dt dt_Term_sizeOf_0 13 rfl) g_Term_26_6 g_Term_26_7 g_Term_26_8 g_Term_26_9 hj ?_
    refine ev_addn (ev_dt dt_Term_sizeOf_0 14 rfl) ?_
    rw [if_neg (fun e => h9 (by rw [e]))] at kk
    exact ev_ireturn (ev_dt dt_Term_sizeOf_0 15 rfl) rfl rfl kk
  · have h9' : kd = 9 := (nI_eq (by omega) (by omega)).mp h9
    refine ev_ic1 (ev_dt dt_Term_sizeOf_0 3 rfl) ?_
    refine ev_aload_1 (ev_dt dt_Term_sizeOf_0 4 rfl) ?_
    refine ev_nd_size (i := i) (ev_dt dt_Term_sizeOf_0 5 rfl) g_Term_26_6 g_Term_26_7 g_Term_26_8 g_Term_26_9 hi ?_
    refine ev_addn (ev_dt dt_Term_sizeOf_0 6 rfl) ?_
    refine ev_goto (tgt := 26) (ev_dt dt_Term_sizeOf_0 7 rfl) (by decide) ?_
    rw [if_pos h9'] at kk
    exact ev_ireturn (ev_dt dt_Term_sizeOf_0 15 rfl) rfl rfl kk
theorem t_Term_init {N : nod} {ed : Nat → Nat → Int32} {zs : Nat → Nat} {cs : Nat → Int32} {ad : Nat → Nat} {a kd t i j : Nat} (hk : kd < 10) (ho : h a = some (oB 9 [.null, .null, .int 0, .int 0, .int 0, .int 0])) (hi : NdAt E N ed zs cs ad i h) (hj : NdAt E N ed zs cs ad j h) (kk : Q (.returned none) (ev_up h a (oB 9 [.ref (ad i), .ref (ad j), .int (nI kd), .int (nI t), .int (nI (if kd = 9 then 1 + zs i else 1 + zs i + zs j)), .int (cs i ||| cs j)])) sz k n) : Ev E m_Term_init (d + 2) 0 [some (.ref a), some (.int (nI kd)), some (.int (nI t)), some (.ref (ad i)), some (.ref (ad j))] [] h sz k n Q := by
  refine ev_aload_0 (ev_dt dt_Term_init_0 0 rfl) ?_
  refine ev_iload_1 (ev_dt dt_Term_init_0 1 rfl) ?_
  refine ev_iload_2 (ev_dt dt_Term_init_0 2 rfl) ?_
  refine ev_iload_1 (ev_dt dt_Term_init_0 3 rfl) ?_
  refine ev_aload_3 (ev_dt dt_Term_init_0 4 rfl) ?_
  refine ev_aload_4 (ev_dt dt_Term_init_0 5 rfl) ?_
  refine ev_callS (ev_dt dt_Term_init_0 6 rfl) s_Term_3 [.int (nI kd), .ref (ad i), .ref (ad j)] rfl np_Term_sizeOf rfl (ev_lk_of (j := 0) rfl rfl) (t_Term_sizeOf (d := d + 1) hk hi hj (ev_r1 ?_))
  refine ev_aload_3 (ev_dt dt_Term_init_0 7 rfl) ?_
  refine ev_nd_cols (i := i) (ev_dt dt_Term_init_0 8 rfl) g_Term_9_6 g_Term_9_7 g_Term_9_8 g_Term_9_9 hi ?_
  refine ev_aload_4 (ev_dt dt_Term_init_0 9 rfl) ?_
  refine ev_nd_cols (i := j) (ev_dt dt_Term_init_0 10 rfl) g_Term_9_6 g_Term_9_7 g_Term_9_8 g_Term_9_9 hj ?_
  refine ev_ior (ev_dt dt_Term_init_0 11 rfl) rfl ?_
  refine ev_callI (a := a) (ev_dt dt_Term_init_0 12 rfl) i_Term_15 [.int (nI kd), .int (nI t), .int (nI (if kd = 9 then 1 + zs i else 1 + zs i + zs j)), .int ((cs i) ||| (cs j))] rfl np_Node_init rfl (ev_lk_of (j := 0) rfl rfl) (t_Node_init_9 (d := d) ho (ev_r0 ?_))
  refine ev_aload_0 (ev_dt dt_Term_init_0 13 rfl) ?_
  refine ev_aload_3 (ev_dt dt_Term_init_0 14 rfl) ?_
  refine ev_put [.ref (ad i), .null, .int (nI kd), .int (nI t), .int (nI (if kd = 9 then 1 + zs i else 1 + zs i + zs j)), .int (cs i ||| cs j)] (ev_dt dt_Term_init_0 15 rfl) p_Term_19_9 ev_up_s rfl rfl rfl rfl ?_
  refine ev_aload_0 (ev_dt dt_Term_init_0 16 rfl) ?_
  refine ev_aload_4 (ev_dt dt_Term_init_0 17 rfl) ?_
  refine ev_put [.ref (ad i), .ref (ad j), .int (nI kd), .int (nI t), .int (nI (if kd = 9 then 1 + zs i else 1 + zs i + zs j)), .int (cs i ||| cs j)] (ev_dt dt_Term_init_0 18 rfl) p_Term_23_9 ev_up_s rfl rfl rfl rfl ?_
  simp only [ev_up_up]
  exact ev_return (ev_dt dt_Term_init_0 19 rfl) rfl kk
end C12
