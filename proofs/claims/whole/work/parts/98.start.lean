/-! The law's entry: classes, arrays, texts, and what is given of the start (written by gen_start.py). -/
theorem si_0 : Cond.instantiable "PreferTable" 11 ∈ lw_tbl := ev_mem 22 (by decide +kernel)
theorem si_1 : Cond.instantiable "PreferTable$Rows" 4 ∈ lw_tbl := ev_mem 30 (by decide +kernel)
theorem si_2 : Cond.instantiable "PreferTable$RowList" 2 ∈ lw_tbl := ev_mem 95 (by decide +kernel)
theorem si_3 : Cond.instantiable "PreferTable$Conditions" 4 ∈ lw_tbl := ev_mem 58 (by decide +kernel)
theorem si_4 : Cond.instantiable "PreferTable$Question" 5 ∈ lw_tbl := ev_mem 111 (by decide +kernel)
theorem si_5 : Cond.instantiable "PreferTable$Contest" 3 ∈ lw_tbl := ev_mem 78 (by decide +kernel)
theorem si_6 : Cond.instantiable "PreferTable$ValueOrder" 7 ∈ lw_tbl := ev_mem 294 (by decide +kernel)
theorem si_7 : Cond.instantiable "PreferTable$Layers" 6 ∈ lw_tbl := ev_mem 285 (by decide +kernel)
theorem si_8 : Cond.instantiable "PreferTable$Graph" 7 ∈ lw_tbl := ev_mem 517 (by decide +kernel)
theorem si_9 : Cond.instantiable "PreferTable$Term" 6 ∈ lw_tbl := ev_mem 591 (by decide +kernel)
theorem si_10 : Cond.instantiable "PreferTableModel" 34 ∈ lw_tbl := ev_mem 767 (by decide +kernel)
theorem si_11 : Cond.instantiable "java/lang/IllegalStateException" 6 ∈ lw_tbl := ev_mem 350 (by decide +kernel)
theorem si_12 : Cond.instantiable "java/lang/IllegalArgumentException" 6 ∈ lw_tbl := ev_mem 454 (by decide +kernel)
theorem si_13 : Cond.instantiable "java/lang/IndexOutOfBoundsException" 6 ∈ lw_tbl := ev_mem 430 (by decide +kernel)
theorem ss_0 : Cond.stringRef "PreferTable" 73 "no room for another row" ∈ lw_tbl := ev_mem 390 (by decide +kernel)
theorem ss_1 : Cond.stringRef "PreferTable" 100 "no such row or column" ∈ lw_tbl := ev_mem 438 (by decide +kernel)
theorem ss_2 : Cond.stringRef "PreferTable" 105 "no such order" ∈ lw_tbl := ev_mem 462 (by decide +kernel)
theorem ss_3 : Cond.stringRef "PreferTable" 108 "no room for another node" ∈ lw_tbl := ev_mem 469 (by decide +kernel)
theorem ss_4 : Cond.stringRef "PreferTable" 129 "no such node or value" ∈ lw_tbl := ev_mem 562 (by decide +kernel)
theorem ss_5 : Cond.stringRef "PreferTable" 259 "a value would be better than itself" ∈ lw_tbl := ev_mem 568 (by decide +kernel)
theorem ss_6 : Cond.stringRef "PreferTable" 137 "the node has no edges" ∈ lw_tbl := ev_mem 577 (by decide +kernel)
theorem ss_7 : Cond.stringRef "PreferTable" 139 "no such kind or node" ∈ lw_tbl := ev_mem 585 (by decide +kernel)
theorem ss_8 : Cond.stringRef "PreferTable" 147 "too many nodes, or too large a term" ∈ lw_tbl := ev_mem 589 (by decide +kernel)
theorem ss_9 : Cond.stringRef "PreferTable" 152 "no such column or operation" ∈ lw_tbl := ev_mem 615 (by decide +kernel)
theorem ss_10 : Cond.stringRef "PreferTable" 157 "no room for another condition" ∈ lw_tbl := ev_mem 616 (by decide +kernel)
theorem ss_11 : Cond.stringRef "PreferTable" 165 "no such node or row" ∈ lw_tbl := ev_mem 628 (by decide +kernel)
theorem ss_12 : Cond.stringRef "PreferTable" 171 "no such node" ∈ lw_tbl := ev_mem 637 (by decide +kernel)
theorem ss_13 : Cond.stringRef "PreferTable" 182 "no such node or column" ∈ lw_tbl := ev_mem 645 (by decide +kernel)
theorem ss_14 : Cond.stringRef "PreferTable" 188 "fewer than no rows" ∈ lw_tbl := ev_mem 657 (by decide +kernel)
theorem ss_15 : Cond.stringRef "PreferTable" 211 "no such question or node" ∈ lw_tbl := ev_mem 702 (by decide +kernel)
theorem ss_16 : Cond.stringRef "PreferTable" 237 "no such number in the form" ∈ lw_tbl := ev_mem 765 (by decide +kernel)
theorem st_cls {s : State} {A : Array Value} (hts : ∀ w ∈ lw_tbl, w.before A s = true) : ∃ D : va_G, ∀ (c : Nat) (q : vw_C), ev_cl[c]? = some q → u_Kn s q.1 q.2.1 q.2.2 (D.1 c) (D.2 c) := by
  obtain ⟨c0, i0, k0⟩ := u_known hts gd_PT.1 (hts _ si_0)
  obtain ⟨c1, i1, k1⟩ := u_known hts gd_Rows.1 (hts _ si_1)
  obtain ⟨c2, i2, k2⟩ := u_known hts gd_RowList.1 (hts _ si_2)
  obtain ⟨c3, i3, k3⟩ := u_known hts gd_Conditions.1 (hts _ si_3)
  obtain ⟨c4, i4, k4⟩ := u_known hts gd_Question.1 (hts _ si_4)
  obtain ⟨c5, i5, k5⟩ := u_known hts gd_Contest.1 (hts _ si_5)
  obtain ⟨c6, i6, k6⟩ := u_known hts gd_ValueOrder.1 (hts _ si_6)
  obtain ⟨c7, i7, k7⟩ := u_known hts gd_Layers.1 (hts _ si_7)
  obtain ⟨c8, i8, k8⟩ := u_known hts gd_Graph.1 (hts _ si_8)
  obtain ⟨c9, i9, k9⟩ := u_known hts gd_Term.1 (hts _ si_9)
  obtain ⟨c10, i10, k10⟩ := u_known hts gd_Md.1 (hts _ si_10)
  obtain ⟨c11, i11, k11⟩ := u_known (C := "java/lang/IllegalStateException") (T := T_exc) (N := 0) hts (fun w hw => by simp [u_ws] at hw) (hts _ si_11)
  obtain ⟨c12, i12, k12⟩ := u_known (C := "java/lang/IllegalArgumentException") (T := T_exc) (N := 0) hts (fun w hw => by simp [u_ws] at hw) (hts _ si_12)
  obtain ⟨c13, i13, k13⟩ := u_known (C := "java/lang/IndexOutOfBoundsException") (T := T_exc) (N := 0) hts (fun w hw => by simp [u_ws] at hw) (hts _ si_13)
  refine ⟨(fun n => match n with | 0 => c0 | 1 => c1 | 2 => c2 | 3 => c3 | 4 => c4 | 5 => c5 | 6 => c6 | 7 => c7 | 8 => c8 | 9 => c9 | 10 => c10 | 11 => c11 | 12 => c12 | 13 => c13 | _ => 0, fun n => match n with | 0 => i0 | 1 => i1 | 2 => i2 | 3 => i3 | 4 => i4 | 5 => i5 | 6 => i6 | 7 => i7 | 8 => i8 | 9 => i9 | 10 => i10 | 11 => i11 | 12 => i12 | 13 => i13 | _ => fun _ => 0), fun c q hq => ?_⟩
  match c, hq with
  | 0, hq => cases hq; exact k0
  | 1, hq => cases hq; exact k1
  | 2, hq => cases hq; exact k2
  | 3, hq => cases hq; exact k3
  | 4, hq => cases hq; exact k4
  | 5, hq => cases hq; exact k5
  | 6, hq => cases hq; exact k6
  | 7, hq => cases hq; exact k7
  | 8, hq => cases hq; exact k8
  | 9, hq => cases hq; exact k9
  | 10, hq => cases hq; exact k10
  | 11, hq => cases hq; exact k11
  | 12, hq => cases hq; exact k12
  | 13, hq => cases hq; exact k13
  | n + 14, hq => exact absurd (List.getElem?_eq_some_iff.mp hq).1 (by show ¬ n + 14 < 14; omega)
theorem st_arr {s : State} {A : Array Value} (hts : ∀ w ∈ lw_tbl, w.before A s = true) : ∃ f : Nat → ClassId, ∀ (k : Nat) (q : ClassId × FieldType), (ev_tys f)[k]? = some q → ArrOfT s q.1 q.2 ∧ va_RA s q.1 q.2 := by
  obtain ⟨c0, k0, p0, a0, b0, d0⟩ := Cond.arrayClass_spec (hts _ wd_54)
  obtain ⟨c1, k1, p1, a1, b1, d1⟩ := Cond.arrayClass_spec (hts _ wd_875)
  obtain ⟨c2, k2, p2, a2, b2, d2⟩ := Cond.arrayClass_spec (hts _ wd_1068)
  obtain ⟨p3, c3, k3, e3, -, b3, d3, a3⟩ := Cond.arrayOver_spec (hts _ wd_56)
  obtain ⟨p4, c4, k4, e4, -, b4, d4, a4⟩ := Cond.arrayOver_spec (hts _ wd_110)
  obtain ⟨p5, c5, k5, e5, b5, d5, a5⟩ := Cond.arrayOver_specA (hts _ wd_36)
  refine ⟨fun k => match k with | 0 => c0 | 1 => c1 | 2 => c2 | 3 => c3 | 4 => c4 | _ => c5, fun k q hk => ?_⟩
  match k, hk with
  | 0, hk => cases hk; exact ⟨fun n z => ⟨fun k h => (by cases h), k0, b0, p0, d0⟩, a0⟩
  | 1, hk => cases hk; exact ⟨fun n z => ⟨fun k h => (by cases h), k1, b1, p1, d1⟩, a1⟩
  | 2, hk => cases hk; exact ⟨fun n z => ⟨fun k h => (by cases h), k2, b2, p2, d2⟩, a2⟩
  | 3, hk => cases hk; exact ⟨fun n z => ⟨fun k h => (by cases h), k3, b3, p3, d3⟩, k3, p3, b3, d3, e3, a3⟩
  | 4, hk => cases hk; exact ⟨fun n z => ⟨fun k h => (by cases h), k4, b4, p4, d4⟩, k4, p4, b4, d4, e4, a4⟩
  | 5, hk => cases hk; exact ⟨fun n z => ⟨fun k h => (by cases h), k5, b5, p5, d5⟩, a5⟩
  | n + 6, hk => exact absurd (List.getElem?_eq_some_iff.mp hk).1 (by show ¬ n + 6 < 6; omega)
theorem st_str {s : State} {A : Array Value} (hts : ∀ w ∈ lw_tbl, w.before A s = true) : ∀ q ∈ ev_strs, ∃ a, vk_R q.1 q.2.1 q.2.2 a s := by
  obtain ⟨cP, kP, hP, -⟩ := Cond.instantiable_spec (hts _ si_0)
  have one : ∀ (k : Nat) (tx : String), Cond.stringRef "PreferTable" k tx ∈ lw_tbl → ∃ a, vk_R "PreferTable" k tx a s := fun k tx hm => by
    obtain ⟨_, _, _, a, -, -, -, -, -, hev⟩ := Cond.stringRef_spec hP (hts _ hm)
    exact ⟨a, vk_R.of (hts _ hm) hev⟩
  unfold ev_strs
  simp only [List.forall_mem_cons]
  exact ⟨one _ _ ss_0, one _ _ ss_1, one _ _ ss_2, one _ _ ss_3, one _ _ ss_4, one _ _ ss_5, one _ _ ss_6, one _ _ ss_7, one _ _ ss_8, one _ _ ss_9, one _ _ ss_10, one _ _ ss_11, one _ _ ss_12, one _ _ ss_13, one _ _ ss_14, one _ _ ss_15, one _ _ ss_16, fun _ h => absurd h List.not_mem_nil⟩
