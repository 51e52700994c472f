/-! The class's small parts: lists of rows, conditions, tests of numbers (written by gen_c1.py over walk.py). -/
theorem z10 : ¬ nI 1 = 0 := by decide +kernel
theorem z00 : nI 0 = 0 := nI_0
theorem ti_4 : (nI 4).toInt = 4 := by decide +kernel
theorem ti_6 : (nI 6).toInt = 6 := by decide +kernel
theorem ti_10 : (nI 10).toInt = 10 := by decide +kernel
theorem ti_24 : (nI 24).toInt = 24 := by decide +kernel
theorem ti_40 : (nI 40).toInt = 40 := by decide +kernel
theorem ti_120 : (nI 120).toInt = 120 := by decide +kernel
theorem ti_m1 : (-1 : Int32).toInt = -1 := by decide +kernel
/-- a number within, by its bounds -/
theorem nI_bd {x : Int32} {c : Nat} (hc : c < 65536) (h0 : ¬ x < 0) (h1 : ¬ nI c ≤ x) : ∃ j, j < c ∧ x = nI j := by
  obtain ⟨j, hj, rfl⟩ := nI_of h0
  refine ⟨j, ?_, rfl⟩
  rw [nI_leI (by omega) hj] at h1
  omega
theorem nI_nb {x : Int32} {c : Nat} (hc : c < 65536) (h : x < 0 ∨ nI c ≤ x) : ∀ j, j < c → x ≠ nI j := by
  rintro j hj rfl
  rcases h with h | h
  · exact nI_pos (by omega) h
  · rw [nI_leI (by omega) (by omega)] at h
    omega
section C1
variable {E : ev_E} {d : Nat} {h : ev_h} {sz k n : Nat} {Q : ev_Q}
theorem t_PT_isColumn {x : Int32} (kt : (∃ j, j < 4 ∧ x = nI j) → Q (.returned (some (.int (nI 1)))) h sz k n) (kf : (∀ j, j < 4 → x ≠ nI j) → Q (.returned (some (.int (nI 0)))) h sz k n) : Ev E m_PT_isColumn d 0 [some (.int x)] [] h sz k n Q := by
  refine ev_iload_0 (ev_dt dt_PT_isColumn_0 0 rfl) ?_
  refine ev_if_lt (tgt := 13) (ev_dt dt_PT_isColumn_0 1 rfl) (by decide) (fun h1 => ?_) (fun h1 => ?_)
  · refine ev_ic0 (ev_dt dt_PT_isColumn_0 7 rfl) ?_
    exact ev_ireturn (ev_dt dt_PT_isColumn_0 8 rfl) rfl bz0 (kf (nI_nb (by decide) (Or.inl h1)))
  · refine ev_iload_0 (ev_dt dt_PT_isColumn_0 2 rfl) ?_
    refine ev_ic4 (ev_dt dt_PT_isColumn_0 3 rfl) ?_
    refine ev_icmp_ge (tgt := 13) (ev_dt dt_PT_isColumn_0 4 rfl) (by decide) (fun h2 => ?_) (fun h2 => ?_)
    · refine ev_ic0 (ev_dt dt_PT_isColumn_0 7 rfl) ?_
      exact ev_ireturn (ev_dt dt_PT_isColumn_0 8 rfl) rfl bz0 (kf (nI_nb (by decide) (Or.inr h2)))
    · refine ev_ic1 (ev_dt dt_PT_isColumn_0 5 rfl) ?_
      refine ev_goto (tgt := 14) (ev_dt dt_PT_isColumn_0 6 rfl) (by decide) ?_
      exact ev_ireturn (ev_dt dt_PT_isColumn_0 8 rfl) rfl bz1 (kt (nI_bd (by decide) h1 h2))
theorem t_PT_isGraded {x : Int32} (kt : (∃ j, j < 10 ∧ x = nI j) → Q (.returned (some (.int (nI 1)))) h sz k n) (kf : (∀ j, j < 10 → x ≠ nI j) → Q (.returned (some (.int (nI 0)))) h sz k n) : Ev E m_PT_isGraded d 0 [some (.int x)] [] h sz k n Q := by
  refine ev_iload_0 (ev_dt dt_PT_isGraded_0 0 rfl) ?_
  refine ev_if_lt (tgt := 14) (ev_dt dt_PT_isGraded_0 1 rfl) (by decide) (fun h1 => ?_) (fun h1 => ?_)
  · refine ev_ic0 (ev_dt dt_PT_isGraded_0 7 rfl) ?_
    exact ev_ireturn (ev_dt dt_PT_isGraded_0 8 rfl) rfl bz0 (kf (nI_nb (by decide) (Or.inl h1)))
  · refine ev_iload_0 (ev_dt dt_PT_isGraded_0 2 rfl) ?_
    refine ev_bipush (ev_dt dt_PT_isGraded_0 3 rfl) bi_10 ?_
    refine ev_icmp_ge (tgt := 14) (ev_dt dt_PT_isGraded_0 4 rfl) (by decide) (fun h2 => ?_) (fun h2 => ?_)
    · refine ev_ic0 (ev_dt dt_PT_isGraded_0 7 rfl) ?_
      exact ev_ireturn (ev_dt dt_PT_isGraded_0 8 rfl) rfl bz0 (kf (nI_nb (by decide) (Or.inr h2)))
    · refine ev_ic1 (ev_dt dt_PT_isGraded_0 5 rfl) ?_
      refine ev_goto (tgt := 15) (ev_dt dt_PT_isGraded_0 6 rfl) (by decide) ?_
      exact ev_ireturn (ev_dt dt_PT_isGraded_0 8 rfl) rfl bz1 (kt (nI_bd (by decide) h1 h2))
theorem t_PT_isQuestion {x : Int32} (kt : (∃ j, j < 4 ∧ x = nI j) → Q (.returned (some (.int (nI 1)))) h sz k n) (kf : (∀ j, j < 4 → x ≠ nI j) → Q (.returned (some (.int (nI 0)))) h sz k n) : Ev E m_PT_isQuestion d 0 [some (.int x)] [] h sz k n Q := by
  refine ev_iload_0 (ev_dt dt_PT_isQuestion_0 0 rfl) ?_
  refine ev_if_lt (tgt := 13) (ev_dt dt_PT_isQuestion_0 1 rfl) (by decide) (fun h1 => ?_) (fun h1 => ?_)
  · refine ev_ic0 (ev_dt dt_PT_isQuestion_0 7 rfl) ?_
    exact ev_ireturn (ev_dt dt_PT_isQuestion_0 8 rfl) rfl bz0 (kf (nI_nb (by decide) (Or.inl h1)))
  · refine ev_iload_0 (ev_dt dt_PT_isQuestion_0 2 rfl) ?_
    refine ev_ic4 (ev_dt dt_PT_isQuestion_0 3 rfl) ?_
    refine ev_icmp_ge (tgt := 13) (ev_dt dt_PT_isQuestion_0 4 rfl) (by decide) (fun h2 => ?_) (fun h2 => ?_)
    · refine ev_ic0 (ev_dt dt_PT_isQuestion_0 7 rfl) ?_
      exact ev_ireturn (ev_dt dt_PT_isQuestion_0 8 rfl) rfl bz0 (kf (nI_nb (by decide) (Or.inr h2)))
    · refine ev_ic1 (ev_dt dt_PT_isQuestion_0 5 rfl) ?_
      refine ev_goto (tgt := 14) (ev_dt dt_PT_isQuestion_0 6 rfl) (by decide) ?_
      exact ev_ireturn (ev_dt dt_PT_isQuestion_0 8 rfl) rfl bz1 (kt (nI_bd (by decide) h1 h2))
/-- a list of rows at a: c numbers f -/
def LsAt (E : ev_E) (a c : Nat) (f : Nat → Int32) (h : ev_h) : Prop := h a = some (oB 2 [.ref (a + 1), .int (nI c)]) ∧ h (a + 1) = some (iA E 24 f)
theorem LsAt.kept {E : ev_E} {a c : Nat} {f : Nat → Int32} {h h' : ev_h} (hL : LsAt E a c f h) (hq : ∀ q, a ≤ q → q < a + 2 → h' q = h q) : LsAt E a c f h' := ⟨(hq a (by omega) (by omega)).trans hL.1, (hq (a + 1) (by omega) (by omega)).trans hL.2⟩
theorem t_RowList_clear {a c : Nat} {f : Nat → Int32} (hL : LsAt E a c f h) (kk : Q (.returned none) (ev_up h a (oB 2 [.ref (a + 1), .int (nI 0)])) sz k n) : Ev E m_RowList_clear d 0 [some (.ref a)] [] h sz k n Q := by
  refine ev_aload_0 (ev_dt dt_RowList_clear_0 0 rfl) ?_
  refine ev_ic0 (ev_dt dt_RowList_clear_0 1 rfl) ?_
  refine ev_put [.ref (a + 1), .int (nI 0)] (ev_dt dt_RowList_clear_0 2 rfl) p_RowList_15_2 hL.1 rfl rfl rfl rfl ?_
  exact ev_return (ev_dt dt_RowList_clear_0 3 rfl) rfl kk
theorem t_RowList_add {a c : Nat} {x : Int32} {f : Nat → Int32} (hc : c < 24) (hL : LsAt E a c f h) (kk : Q (.returned none) (ev_up (ev_up h (a + 1) (iA E 24 (upd f c x))) a (oB 2 [.ref (a + 1), .int (nI (c + 1))])) sz k n) : Ev E m_RowList_add d 0 [some (.ref a), some (.int x)] [] h sz k n Q := by
  refine ev_aload_0 (ev_dt dt_RowList_add_0 0 rfl) ?_
  refine ev_get (ev_dt dt_RowList_add_0 1 rfl) g_RowList_9_2 hL.1 rfl ?_
  refine ev_aload_0 (ev_dt dt_RowList_add_0 2 rfl) ?_
  refine ev_get (ev_dt dt_RowList_add_0 3 rfl) g_RowList_15_2 hL.1 rfl ?_
  refine ev_iload_1 (ev_dt dt_RowList_add_0 4 rfl) ?_
  refine ev_iast (ev_dt dt_RowList_add_0 5 rfl) hL.2 (by omega) (by decide) ?_
  refine ev_aload_0 (ev_dt dt_RowList_add_0 6 rfl) ?_
  refine ev_dup (ev_dt dt_RowList_add_0 7 rfl) rfl ?_
  refine ev_get (ev_dt dt_RowList_add_0 8 rfl) g_RowList_15_2 ((ev_up_n (by omega)).trans hL.1) rfl ?_
  refine ev_ic1 (ev_dt dt_RowList_add_0 9 rfl) ?_
  refine ev_addn (ev_dt dt_RowList_add_0 10 rfl) ?_
  refine ev_put [.ref (a + 1), .int (nI (c + 1))] (ev_dt dt_RowList_add_0 11 rfl) p_RowList_15_2 ((ev_up_n (by omega)).trans hL.1) rfl rfl rfl rfl ?_
  exact ev_return (ev_dt dt_RowList_add_0 12 rfl) rfl kk
theorem t_RowList_has {a c : Nat} {x : Int32} {f : Nat → Int32} (hc : c ≤ 24) (hL : LsAt E a c f h) (kt : (∃ i, i < c ∧ f i = x) → Q (.returned (some (.int (nI 1)))) h sz k n) (kf : (∀ i, i < c → f i ≠ x) → Q (.returned (some (.int (nI 0)))) h sz k n) : Ev E m_RowList_has d 0 [some (.ref a), some (.int x), none] [] h sz k n Q := by
  have loop : ∀ m j, j + m = c → (∀ i, i < j → f i ≠ x) → Ev E m_RowList_has d 2 [some (.ref a), some (.int x), some (.int (nI j))] [] h sz k n Q := by
    intro m
    induction m with
    | zero =>
      intro j hj hno
      refine ev_iload_2 (ev_dt dt_RowList_has_0 2 rfl) ?_
      refine ev_aload_0 (ev_dt dt_RowList_has_0 3 rfl) ?_
      refine ev_get (ev_dt dt_RowList_has_0 4 rfl) g_RowList_15_2 hL.1 rfl ?_
      refine ev_icmp_geT (tgt := 28) (ev_dt dt_RowList_has_0 5 rfl) (by decide) (nI_le (by omega) (by omega)) ?_
      refine ev_ic0 (ev_dt dt_RowList_has_0 16 rfl) ?_
      exact ev_ireturn (ev_dt dt_RowList_has_0 17 rfl) rfl bz0 (kf (fun i hi => hno i (by omega)))
    | succ m ih =>
      intro j hj hno
      refine ev_iload_2 (ev_dt dt_RowList_has_0 2 rfl) ?_
      refine ev_aload_0 (ev_dt dt_RowList_has_0 3 rfl) ?_
      refine ev_get (ev_dt dt_RowList_has_0 4 rfl) g_RowList_15_2 hL.1 rfl ?_
      refine ev_icmp_geF (tgt := 28) (ev_dt dt_RowList_has_0 5 rfl) (by decide) (nI_ge (by omega) (by omega)) ?_
      refine ev_aload_0 (ev_dt dt_RowList_has_0 6 rfl) ?_
      refine ev_get (ev_dt dt_RowList_has_0 7 rfl) g_RowList_9_2 hL.1 rfl ?_
      refine ev_iload_2 (ev_dt dt_RowList_has_0 8 rfl) ?_
      refine ev_iald (ev_dt dt_RowList_has_0 9 rfl) hL.2 (by omega) (by decide) rfl ?_
      refine ev_iload_1 (ev_dt dt_RowList_has_0 10 rfl) ?_
      refine ev_icmp_ne (tgt := 22) (ev_dt dt_RowList_has_0 11 rfl) (by decide) (fun hne => ?_) (fun heq => ?_)
      · refine ev_inc1_2 (ev_dt dt_RowList_has_0 14 rfl) (by decide) rfl ?_
        refine ev_goto (tgt := 2) (ev_dt dt_RowList_has_0 15 rfl) (by decide) ?_
        exact ih (j + 1) (by omega) (fun i hi => by
        by_cases e : i = j
        · subst e; exact hne
        · exact hno i (by omega))
      · refine ev_ic1 (ev_dt dt_RowList_has_0 12 rfl) ?_
        exact ev_ireturn (ev_dt dt_RowList_has_0 13 rfl) rfl bz1 (kt ⟨j, by omega, heq⟩)
  refine ev_ic0 (ev_dt dt_RowList_has_0 0 rfl) ?_
  refine ev_istore_2 (ev_dt dt_RowList_has_0 1 rfl) (by decide) rfl ?_
  exact loop c 0 (by omega) (fun i hi => absurd hi (Nat.not_lt_zero _))
theorem t_RowList_copyFrom {a b c c2 : Nat} {f g : Nat → Int32} (hc : c2 ≤ 24) (hab : a + 2 ≤ b ∨ b + 2 ≤ a) (hL : LsAt E a c f h) (hL2 : LsAt E b c2 g h) (kk : Q (.returned none) (ev_up (ev_up h (a + 1) (iA E 24 (va_cpy g f 0 0 c2))) a (oB 2 [.ref (a + 1), .int (nI c2)])) sz k n) : Ev E m_RowList_copyFrom (d + 1) 0 [some (.ref a), some (.ref b)] [] h sz k n Q := by
  refine ev_aload_1 (ev_dt dt_RowList_copyFrom_0 0 rfl) ?_
  refine ev_get (ev_dt dt_RowList_copyFrom_0 1 rfl) g_RowList_9_2 hL2.1 rfl ?_
  refine ev_ic0 (ev_dt dt_RowList_copyFrom_0 2 rfl) ?_
  refine ev_aload_0 (ev_dt dt_RowList_copyFrom_0 3 rfl) ?_
  refine ev_get (ev_dt dt_RowList_copyFrom_0 4 rfl) g_RowList_9_2 hL.1 rfl ?_
  refine ev_ic0 (ev_dt dt_RowList_copyFrom_0 5 rfl) ?_
  refine ev_aload_1 (ev_dt dt_RowList_copyFrom_0 6 rfl) ?_
  refine ev_get (ev_dt dt_RowList_copyFrom_0 7 rfl) g_RowList_15_2 hL2.1 rfl ?_
  refine ev_copy (ev_dt dt_RowList_copyFrom_0 8 rfl) a_RowList_19 hL2.2 hL.2 (by decide) (by decide) (by omega) (by omega) rfl ?_
  refine ev_aload_0 (ev_dt dt_RowList_copyFrom_0 9 rfl) ?_
  refine ev_aload_1 (ev_dt dt_RowList_copyFrom_0 10 rfl) ?_
  refine ev_get (ev_dt dt_RowList_copyFrom_0 11 rfl) g_RowList_15_2 ((ev_up_n (by omega)).trans hL2.1) rfl ?_
  refine ev_put [.ref (a + 1), .int (nI c2)] (ev_dt dt_RowList_copyFrom_0 12 rfl) p_RowList_15_2 ((ev_up_n (by omega)).trans hL.1) rfl rfl rfl rfl ?_
  exact ev_return (ev_dt dt_RowList_copyFrom_0 13 rfl) rfl kk
/-- what pick answers: f's first c numbers, of them those of the kind S (by place) -/
def pkR (c : Nat) (S : Nat → Bool) (f : Nat → Int32) (i r : Int32) : Prop := (∃ q, q < c ∧ S q = true ∧ i = nI (cnt S q) ∧ r = f q) ∨ ((∀ q, q < c → S q = true → i ≠ nI (cnt S q)) ∧ r = if i = -1 then nI (cnt S c) else -1)
theorem t_RowList_pick {a b c c2 : Nat} {x : Int32} {f g : Nat → Int32} {S : Nat → Bool} (hc : c ≤ 24) (hc2 : c2 ≤ 24) (hL : LsAt E a c f h) (hL2 : LsAt E b c2 g h) (hSS : ∀ q, q < c → (S q = true ↔ ∀ i, i < c2 → g i ≠ f q)) (kk : ∀ r, pkR c S f x r → Q (.returned (some (.int r))) h sz k n) : Ev E m_RowList_pick (d + 1) 0 [some (.ref a), some (.ref b), some (.int x), none, none] [] h sz k n Q := by
  have loop : ∀ m j, j + m = c → (∀ q, q < j → S q = true → x ≠ nI (cnt S q)) → Ev E m_RowList_pick (d + 1) 5 [some (.ref a), some (.ref b), some (.int x), some (.int (nI (cnt S j))), some (.int (nI j))] [] h sz k n Q := by
    intro m
    induction m with
    | zero =>
      intro j hj hno
      refine ev_iload_4 (ev_dt dt_RowList_pick_0 4 rfl) ?_
      refine ev_aload_0 (ev_dt dt_RowList_pick_0 5 rfl) ?_
      refine ev_get (ev_dt dt_RowList_pick_0 6 rfl) g_RowList_15_2 hL.1 rfl ?_
      refine ev_icmp_geT (tgt := 50) (ev_dt dt_RowList_pick_0 7 rfl) (by decide) (nI_le (by omega) (by omega)) ?_
      obtain rfl : j = c := by omega
      refine ev_iload_2 (ev_dt dt_RowList_pick_0 26 rfl) ?_
      refine ev_icm (ev_dt dt_RowList_pick_0 27 rfl) ?_
      refine ev_icmp_ne (tgt := 59) (ev_dt dt_RowList_pick_0 28 rfl) (by decide) (fun hm => ?_) (fun hm => ?_)
      · refine ev_icm (ev_dt dt_RowList_pick_0 31 rfl) ?_
        exact ev_ireturn (ev_dt dt_RowList_pick_0 32 rfl) rfl rfl (kk _ (Or.inr ⟨hno, by rw [if_neg hm]⟩))
      · refine ev_iload_3 (ev_dt dt_RowList_pick_0 29 rfl) ?_
        refine ev_goto (tgt := 60) (ev_dt dt_RowList_pick_0 30 rfl) (by decide) ?_
        exact ev_ireturn (ev_dt dt_RowList_pick_0 32 rfl) rfl rfl (kk _ (Or.inr ⟨hno, by rw [if_pos hm]⟩))
    | succ m ih =>
      intro j hj hno
      refine ev_iload_4 (ev_dt dt_RowList_pick_0 4 rfl) ?_
      refine ev_aload_0 (ev_dt dt_RowList_pick_0 5 rfl) ?_
      refine ev_get (ev_dt dt_RowList_pick_0 6 rfl) g_RowList_15_2 hL.1 rfl ?_
      refine ev_icmp_geF (tgt := 50) (ev_dt dt_RowList_pick_0 7 rfl) (by decide) (nI_ge (by omega) (by omega)) ?_
      refine ev_aload_1 (ev_dt dt_RowList_pick_0 8 rfl) ?_
      refine ev_aload_0 (ev_dt dt_RowList_pick_0 9 rfl) ?_
      refine ev_get (ev_dt dt_RowList_pick_0 10 rfl) g_RowList_9_2 hL.1 rfl ?_
      refine ev_iload_4 (ev_dt dt_RowList_pick_0 11 rfl) ?_
      refine ev_iald (ev_dt dt_RowList_pick_0 12 rfl) hL.2 (by omega) (by decide) rfl ?_
      refine ev_callV (ev_dt dt_RowList_pick_0 13 rfl) v_RowList_25_2 hL2.1 [.int (f j)] rfl np_RowList_has rfl (ev_lk_of (j := 1) rfl rfl) (t_RowList_has hc2 hL2 (fun hx => ev_r1 ?_) (fun hx => ev_r1 ?_))
      · have hS : S j = false := by
          rw [Bool.eq_false_iff]
          intro e
          obtain ⟨i, hi, e2⟩ := hx
          exact (hSS j (by omega)).mp e i hi e2
        refine ev_if_neT (tgt := 44) (ev_dt dt_RowList_pick_0 14 rfl) (by decide) z10 ?_
        refine ev_inc1_4 (ev_dt dt_RowList_pick_0 24 rfl) (by decide) rfl ?_
        refine ev_goto (tgt := 5) (ev_dt dt_RowList_pick_0 25 rfl) (by decide) ?_
        have e1 : cnt S (j + 1) = cnt S j := by rw [cnt_step, hS]; rfl
        rw [← e1]
        exact ih (j + 1) (by omega) (fun q hq hs => by
          by_cases e : q = j
          · subst e; rw [hS] at hs; cases hs
          · exact hno q (by omega) hs)
      · have hS : S j = true := (hSS j (by omega)).mpr hx
        refine ev_if_neF (tgt := 44) (ev_dt dt_RowList_pick_0 14 rfl) (by decide) z00 ?_
        refine ev_iload_3 (ev_dt dt_RowList_pick_0 15 rfl) ?_
        refine ev_iload_2 (ev_dt dt_RowList_pick_0 16 rfl) ?_
        refine ev_icmp_ne (tgt := 41) (ev_dt dt_RowList_pick_0 17 rfl) (by decide) (fun hm => ?_) (fun hm => ?_)
        · refine ev_inc1_3 (ev_dt dt_RowList_pick_0 23 rfl) (by decide) rfl ?_
          refine ev_inc1_4 (ev_dt dt_RowList_pick_0 24 rfl) (by decide) rfl ?_
          refine ev_goto (tgt := 5) (ev_dt dt_RowList_pick_0 25 rfl) (by decide) ?_
          have e1 : cnt S (j + 1) = cnt S j + 1 := by rw [cnt_step, if_pos hS]
          rw [← e1]
          exact ih (j + 1) (by omega) (fun q hq hs => by
            by_cases e : q = j
            · subst e; exact Ne.symm hm
            · exact hno q (by omega) hs)
        · refine ev_aload_0 (ev_dt dt_RowList_pick_0 18 rfl) ?_
          refine ev_get (ev_dt dt_RowList_pick_0 19 rfl) g_RowList_9_2 hL.1 rfl ?_
          refine ev_iload_4 (ev_dt dt_RowList_pick_0 20 rfl) ?_
          refine ev_iald (ev_dt dt_RowList_pick_0 21 rfl) hL.2 (by omega) (by decide) rfl ?_
          exact ev_ireturn (ev_dt dt_RowList_pick_0 22 rfl) rfl rfl (kk _ (Or.inl ⟨j, by omega, hS, hm.symm, rfl⟩))
  refine ev_ic0 (ev_dt dt_RowList_pick_0 0 rfl) ?_
  refine ev_istore_3 (ev_dt dt_RowList_pick_0 1 rfl) (by decide) rfl ?_
  refine ev_ic0 (ev_dt dt_RowList_pick_0 2 rfl) ?_
  refine ev_istore_4 (ev_dt dt_RowList_pick_0 3 rfl) (by decide) rfl ?_
  exact loop c 0 (by omega) (fun q hq => absurd hq (Nat.not_lt_zero _))
/-- conditions at a: c of them, columns on, operations op, numbers th -/
def CdAt (E : ev_E) (a c : Nat) (on op th : Nat → Int32) (h : ev_h) : Prop := h a = some (oB 3 [.ref (a + 1), .ref (a + 2), .ref (a + 3), .int (nI c)]) ∧ h (a + 1) = some (iA E 4 on) ∧ h (a + 2) = some (iA E 4 op) ∧ h (a + 3) = some (iA E 4 th)
theorem CdAt.kept {E : ev_E} {a c : Nat} {on op th : Nat → Int32} {h h' : ev_h} (hL : CdAt E a c on op th h) (hq : ∀ q, a ≤ q → q < a + 4 → h' q = h q) : CdAt E a c on op th h' :=
  ⟨(hq a (by omega) (by omega)).trans hL.1, (hq (a + 1) (by omega) (by omega)).trans hL.2.1, (hq (a + 2) (by omega) (by omega)).trans hL.2.2.1, (hq (a + 3) (by omega) (by omega)).trans hL.2.2.2⟩
/-- does a condition hold -/
def hld (o : Nat) (x v : Int32) : Bool := if o = 0 then decide (x = v) else if o = 1 then !decide (x = v) else if o = 2 then decide (x < v) else if o = 3 then decide (x ≤ v) else if o = 4 then decide (v < x) else decide (v ≤ x)
theorem t_Conditions_clear {a c : Nat} {on op th : Nat → Int32} (hL : CdAt E a c on op th h) (kk : Q (.returned none) (ev_up h a (oB 3 [.ref (a + 1), .ref (a + 2), .ref (a + 3), .int (nI 0)])) sz k n) : Ev E m_Conditions_clear d 0 [some (.ref a)] [] h sz k n Q := by
  refine ev_aload_0 (ev_dt dt_Conditions_clear_0 0 rfl) ?_
  refine ev_ic0 (ev_dt dt_Conditions_clear_0 1 rfl) ?_
  refine ev_put [.ref (a + 1), .ref (a + 2), .ref (a + 3), .int (nI 0)] (ev_dt dt_Conditions_clear_0 2 rfl) p_Conditions_21_3 hL.1 rfl rfl rfl rfl ?_
  exact ev_return (ev_dt dt_Conditions_clear_0 3 rfl) rfl kk
theorem t_Conditions_add {a c : Nat} {x y v : Int32} {on op th : Nat → Int32} (hc : c < 4) (hL : CdAt E a c on op th h) (kk : Q (.returned none) (ev_up (ev_up (ev_up (ev_up h (a + 1) (iA E 4 (upd on c x))) (a + 2) (iA E 4 (upd op c y))) (a + 3) (iA E 4 (upd th c v))) a (oB 3 [.ref (a + 1), .ref (a + 2), .ref (a + 3), .int (nI (c + 1))])) sz k n) : Ev E m_Conditions_add d 0 [some (.ref a), some (.int x), some (.int y), some (.int v)] [] h sz k n Q := by
  refine ev_aload_0 (ev_dt dt_Conditions_add_0 0 rfl) ?_
  refine ev_get (ev_dt dt_Conditions_add_0 1 rfl) g_Conditions_9_3 hL.1 rfl ?_
  refine ev_aload_0 (ev_dt dt_Conditions_add_0 2 rfl) ?_
  refine ev_get (ev_dt dt_Conditions_add_0 3 rfl) g_Conditions_21_3 hL.1 rfl ?_
  refine ev_iload_1 (ev_dt dt_Conditions_add_0 4 rfl) ?_
  refine ev_iast (ev_dt dt_Conditions_add_0 5 rfl) hL.2.1 (by omega) (by decide) ?_
  refine ev_aload_0 (ev_dt dt_Conditions_add_0 6 rfl) ?_
  refine ev_get (ev_dt dt_Conditions_add_0 7 rfl) g_Conditions_15_3 ((ev_up_n (by omega)).trans hL.1) rfl ?_
  refine ev_aload_0 (ev_dt dt_Conditions_add_0 8 rfl) ?_
  refine ev_get (ev_dt dt_Conditions_add_0 9 rfl) g_Conditions_21_3 ((ev_up_n (by omega)).trans hL.1) rfl ?_
  refine ev_iload_2 (ev_dt dt_Conditions_add_0 10 rfl) ?_
  refine ev_iast (ev_dt dt_Conditions_add_0 11 rfl) ((ev_up_n (by omega)).trans hL.2.2.1) (by omega) (by decide) ?_
  refine ev_aload_0 (ev_dt dt_Conditions_add_0 12 rfl) ?_
  refine ev_get (ev_dt dt_Conditions_add_0 13 rfl) g_Conditions_18_3 ((ev_up_n (by omega)).trans ((ev_up_n (by omega)).trans hL.1)) rfl ?_
  refine ev_aload_0 (ev_dt dt_Conditions_add_0 14 rfl) ?_
  refine ev_get (ev_dt dt_Conditions_add_0 15 rfl) g_Conditions_21_3 ((ev_up_n (by omega)).trans ((ev_up_n (by omega)).trans hL.1)) rfl ?_
  refine ev_iload_3 (ev_dt dt_Conditions_add_0 16 rfl) ?_
  refine ev_iast (ev_dt dt_Conditions_add_0 17 rfl) ((ev_up_n (by omega)).trans ((ev_up_n (by omega)).trans hL.2.2.2)) (by omega) (by decide) ?_
  refine ev_aload_0 (ev_dt dt_Conditions_add_0 18 rfl) ?_
  refine ev_dup (ev_dt dt_Conditions_add_0 19 rfl) rfl ?_
  refine ev_get (ev_dt dt_Conditions_add_0 20 rfl) g_Conditions_21_3 ((ev_up_n (by omega)).trans ((ev_up_n (by omega)).trans ((ev_up_n (by omega)).trans hL.1))) rfl ?_
  refine ev_ic1 (ev_dt dt_Conditions_add_0 21 rfl) ?_
  refine ev_addn (ev_dt dt_Conditions_add_0 22 rfl) ?_
  refine ev_put [.ref (a + 1), .ref (a + 2), .ref (a + 3), .int (nI (c + 1))] (ev_dt dt_Conditions_add_0 23 rfl) p_Conditions_21_3 ((ev_up_n (by omega)).trans ((ev_up_n (by omega)).trans ((ev_up_n (by omega)).trans hL.1))) rfl rfl rfl rfl ?_
  exact ev_return (ev_dt dt_Conditions_add_0 24 rfl) rfl kk
theorem t_Conditions_holds {o : Nat} {x v : Int32} (ho : o < 6) (kt : hld o x v = true → Q (.returned (some (.int (nI 1)))) h sz k n) (kf : hld o x v = false → Q (.returned (some (.int (nI 0)))) h sz k n) : Ev E m_Conditions_holds d 0 [some (.int x), some (.int (nI o)), some (.int v)] [] h sz k n Q := by
  obtain rfl | rfl | rfl | rfl | rfl | rfl : o = 0 ∨ o = 1 ∨ o = 2 ∨ o = 3 ∨ o = 4 ∨ o = 5 := by omega
  · refine ev_iload_1 (ev_dt dt_Conditions_holds_0 0 rfl) ?_
    refine ev_tabIn (tgt := 36) (off := 35) (ev_dt dt_Conditions_holds_0 1 rfl) (by decide +kernel) (by decide +kernel) (by decide +kernel) (by decide) ?_
    refine ev_iload_0 (ev_dt dt_Conditions_holds_0 2 rfl) ?_
    refine ev_iload_2 (ev_dt dt_Conditions_holds_0 3 rfl) ?_
    refine ev_icmp_ne (tgt := 45) (ev_dt dt_Conditions_holds_0 4 rfl) (by decide) (fun hb => ?_) (fun hb => ?_)
    · refine ev_ic0 (ev_dt dt_Conditions_holds_0 7 rfl) ?_
      exact ev_ireturn (ev_dt dt_Conditions_holds_0 8 rfl) rfl bz0 (kf (by simp [hld, hb]))
    · refine ev_ic1 (ev_dt dt_Conditions_holds_0 5 rfl) ?_
      refine ev_goto (tgt := 46) (ev_dt dt_Conditions_holds_0 6 rfl) (by decide) ?_
      exact ev_ireturn (ev_dt dt_Conditions_holds_0 8 rfl) rfl bz1 (kt (by simp [hld, hb]))
  · refine ev_iload_1 (ev_dt dt_Conditions_holds_0 0 rfl) ?_
    refine ev_tabIn (tgt := 47) (off := 46) (ev_dt dt_Conditions_holds_0 1 rfl) (by decide +kernel) (by decide +kernel) (by decide +kernel) (by decide) ?_
    refine ev_iload_0 (ev_dt dt_Conditions_holds_0 9 rfl) ?_
    refine ev_iload_2 (ev_dt dt_Conditions_holds_0 10 rfl) ?_
    refine ev_icmp_eq (tgt := 56) (ev_dt dt_Conditions_holds_0 11 rfl) (by decide) (fun hb => ?_) (fun hb => ?_)
    · refine ev_ic0 (ev_dt dt_Conditions_holds_0 14 rfl) ?_
      exact ev_ireturn (ev_dt dt_Conditions_holds_0 15 rfl) rfl bz0 (kf (by simp [hld, hb]))
    · refine ev_ic1 (ev_dt dt_Conditions_holds_0 12 rfl) ?_
      refine ev_goto (tgt := 57) (ev_dt dt_Conditions_holds_0 13 rfl) (by decide) ?_
      exact ev_ireturn (ev_dt dt_Conditions_holds_0 15 rfl) rfl bz1 (kt (by simp [hld, hb]))
  · refine ev_iload_1 (ev_dt dt_Conditions_holds_0 0 rfl) ?_
    refine ev_tabIn (tgt := 58) (off := 57) (ev_dt dt_Conditions_holds_0 1 rfl) (by decide +kernel) (by decide +kernel) (by decide +kernel) (by decide) ?_
    refine ev_iload_0 (ev_dt dt_Conditions_holds_0 16 rfl) ?_
    refine ev_iload_2 (ev_dt dt_Conditions_holds_0 17 rfl) ?_
    refine ev_icmp_ge (tgt := 67) (ev_dt dt_Conditions_holds_0 18 rfl) (by decide) (fun hb => ?_) (fun hb => ?_)
    · refine ev_ic0 (ev_dt dt_Conditions_holds_0 21 rfl) ?_
      exact ev_ireturn (ev_dt dt_Conditions_holds_0 22 rfl) rfl bz0 (kf (by first | simpa [hld] using hb | (simp only [hld]; simpa [Int32.not_le, Int32.not_lt] using hb)))
    · refine ev_ic1 (ev_dt dt_Conditions_holds_0 19 rfl) ?_
      refine ev_goto (tgt := 68) (ev_dt dt_Conditions_holds_0 20 rfl) (by decide) ?_
      exact ev_ireturn (ev_dt dt_Conditions_holds_0 22 rfl) rfl bz1 (kt (by first | simpa [hld] using hb | (simp only [hld]; simpa [Int32.not_le, Int32.not_lt] using hb)))
  · refine ev_iload_1 (ev_dt dt_Conditions_holds_0 0 rfl) ?_
    refine ev_tabIn (tgt := 69) (off := 68) (ev_dt dt_Conditions_holds_0 1 rfl) (by decide +kernel) (by decide +kernel) (by decide +kernel) (by decide) ?_
    refine ev_iload_0 (ev_dt dt_Conditions_holds_0 23 rfl) ?_
    refine ev_iload_2 (ev_dt dt_Conditions_holds_0 24 rfl) ?_
    refine ev_icmp_gt (tgt := 78) (ev_dt dt_Conditions_holds_0 25 rfl) (by decide) (fun hb => ?_) (fun hb => ?_)
    · refine ev_ic0 (ev_dt dt_Conditions_holds_0 28 rfl) ?_
      exact ev_ireturn (ev_dt dt_Conditions_holds_0 29 rfl) rfl bz0 (kf (by first | simpa [hld] using hb | (simp only [hld]; simpa [Int32.not_le, Int32.not_lt] using hb)))
    · refine ev_ic1 (ev_dt dt_Conditions_holds_0 26 rfl) ?_
      refine ev_goto (tgt := 79) (ev_dt dt_Conditions_holds_0 27 rfl) (by decide) ?_
      exact ev_ireturn (ev_dt dt_Conditions_holds_0 29 rfl) rfl bz1 (kt (by first | simpa [hld] using hb | (simp only [hld]; simpa [Int32.not_le, Int32.not_lt] using hb)))
  · refine ev_iload_1 (ev_dt dt_Conditions_holds_0 0 rfl) ?_
    refine ev_tabIn (tgt := 80) (off := 79) (ev_dt dt_Conditions_holds_0 1 rfl) (by decide +kernel) (by decide +kernel) (by decide +kernel) (by decide) ?_
    refine ev_iload_0 (ev_dt dt_Conditions_holds_0 30 rfl) ?_
    refine ev_iload_2 (ev_dt dt_Conditions_holds_0 31 rfl) ?_
    refine ev_icmp_le (tgt := 89) (ev_dt dt_Conditions_holds_0 32 rfl) (by decide) (fun hb => ?_) (fun hb => ?_)
    · refine ev_ic0 (ev_dt dt_Conditions_holds_0 35 rfl) ?_
      exact ev_ireturn (ev_dt dt_Conditions_holds_0 36 rfl) rfl bz0 (kf (by first | simpa [hld] using hb | (simp only [hld]; simpa [Int32.not_le, Int32.not_lt] using hb)))
    · refine ev_ic1 (ev_dt dt_Conditions_holds_0 33 rfl) ?_
      refine ev_goto (tgt := 90) (ev_dt dt_Conditions_holds_0 34 rfl) (by decide) ?_
      exact ev_ireturn (ev_dt dt_Conditions_holds_0 36 rfl) rfl bz1 (kt (by first | simpa [hld] using hb | (simp only [hld]; simpa [Int32.not_le, Int32.not_lt] using hb)))
  · refine ev_iload_1 (ev_dt dt_Conditions_holds_0 0 rfl) ?_
    refine ev_tabOut (tgt := 91) (ev_dt dt_Conditions_holds_0 1 rfl) (by decide +kernel) (by decide) ?_
    refine ev_iload_0 (ev_dt dt_Conditions_holds_0 37 rfl) ?_
    refine ev_iload_2 (ev_dt dt_Conditions_holds_0 38 rfl) ?_
    refine ev_icmp_lt (tgt := 100) (ev_dt dt_Conditions_holds_0 39 rfl) (by decide) (fun hb => ?_) (fun hb => ?_)
    · refine ev_ic0 (ev_dt dt_Conditions_holds_0 42 rfl) ?_
      exact ev_ireturn (ev_dt dt_Conditions_holds_0 43 rfl) rfl bz0 (kf (by first | simpa [hld] using hb | (simp only [hld]; simpa [Int32.not_le, Int32.not_lt] using hb)))
    · refine ev_ic1 (ev_dt dt_Conditions_holds_0 40 rfl) ?_
      refine ev_goto (tgt := 101) (ev_dt dt_Conditions_holds_0 41 rfl) (by decide) ?_
      exact ev_ireturn (ev_dt dt_Conditions_holds_0 43 rfl) rfl bz1 (kt (by first | simpa [hld] using hb | (simp only [hld]; simpa [Int32.not_le, Int32.not_lt] using hb)))
/-- do all conditions hold of a row V -/
def okC (c : Nat) (on op : Nat → Nat) (th : Nat → Int32) (V : Nat → Int32) : Prop := ∀ i, i < c → hld (op i) (V (on i)) (th i) = true
theorem t_Conditions_pass {a b c : Nat} {on op th V : Nat → Int32} {cn co : Nat → Nat} (hc : c ≤ 4) (hL : CdAt E a c on op th h) (hV : h b = some (iA E 4 V)) (hon : ∀ i, i < c → on i = nI (cn i) ∧ cn i < 4) (hop : ∀ i, i < c → op i = nI (co i) ∧ co i < 6) (kt : okC c cn co th V → Q (.returned (some (.int (nI 1)))) h sz k n) (kf : ¬ okC c cn co th V → Q (.returned (some (.int (nI 0)))) h sz k n) : Ev E m_Conditions_pass (d + 1) 0 [some (.ref a), some (.ref b), none] [] h sz k n Q := by
  have loop : ∀ m j, j + m = c → (∀ i, i < j → hld (co i) (V (cn i)) (th i) = true) → Ev E m_Conditions_pass (d + 1) 2 [some (.ref a), some (.ref b), some (.int (nI j))] [] h sz k n Q := by
    intro m
    induction m with
    | zero =>
      intro j hj hall
      refine ev_iload_2 (ev_dt dt_Conditions_pass_0 2 rfl) ?_
      refine ev_aload_0 (ev_dt dt_Conditions_pass_0 3 rfl) ?_
      refine ev_get (ev_dt dt_Conditions_pass_0 4 rfl) g_Conditions_21_3 hL.1 rfl ?_
      refine ev_icmp_geT (tgt := 44) (ev_dt dt_Conditions_pass_0 5 rfl) (by decide) (nI_le (by omega) (by omega)) ?_
      refine ev_ic1 (ev_dt dt_Conditions_pass_0 26 rfl) ?_
      exact ev_ireturn (ev_dt dt_Conditions_pass_0 27 rfl) rfl bz1 (kt (fun i hi => hall i (by omega)))
    | succ m ih =>
      intro j hj hall
      refine ev_iload_2 (ev_dt dt_Conditions_pass_0 2 rfl) ?_
      refine ev_aload_0 (ev_dt dt_Conditions_pass_0 3 rfl) ?_
      refine ev_get (ev_dt dt_Conditions_pass_0 4 rfl) g_Conditions_21_3 hL.1 rfl ?_
      refine ev_icmp_geF (tgt := 44) (ev_dt dt_Conditions_pass_0 5 rfl) (by decide) (nI_ge (by omega) (by omega)) ?_
      refine ev_aload_1 (ev_dt dt_Conditions_pass_0 6 rfl) ?_
      refine ev_aload_0 (ev_dt dt_Conditions_pass_0 7 rfl) ?_
      refine ev_get (ev_dt dt_Conditions_pass_0 8 rfl) g_Conditions_9_3 hL.1 rfl ?_
      refine ev_iload_2 (ev_dt dt_Conditions_pass_0 9 rfl) ?_
      refine ev_iald (ev_dt dt_Conditions_pass_0 10 rfl) hL.2.1 (by omega) (by decide) rfl ?_
      rw [(hon j (by omega)).1]
      have hcn := (hon j (by omega)).2
      refine ev_iald (ev_dt dt_Conditions_pass_0 11 rfl) hV (by omega) (by decide) rfl ?_
      refine ev_aload_0 (ev_dt dt_Conditions_pass_0 12 rfl) ?_
      refine ev_get (ev_dt dt_Conditions_pass_0 13 rfl) g_Conditions_15_3 hL.1 rfl ?_
      refine ev_iload_2 (ev_dt dt_Conditions_pass_0 14 rfl) ?_
      refine ev_iald (ev_dt dt_Conditions_pass_0 15 rfl) hL.2.2.1 (by omega) (by decide) rfl ?_
      rw [(hop j (by omega)).1]
      refine ev_aload_0 (ev_dt dt_Conditions_pass_0 16 rfl) ?_
      refine ev_get (ev_dt dt_Conditions_pass_0 17 rfl) g_Conditions_18_3 hL.1 rfl ?_
      refine ev_iload_2 (ev_dt dt_Conditions_pass_0 18 rfl) ?_
      refine ev_iald (ev_dt dt_Conditions_pass_0 19 rfl) hL.2.2.2 (by omega) (by decide) rfl ?_
      refine ev_callS (ev_dt dt_Conditions_pass_0 20 rfl) s_Conditions_32 [.int (V (cn j)), .int (nI (co j)), .int (th j)] rfl np_Conditions_holds rfl (ev_lk_of (j := 0) rfl rfl) (t_Conditions_holds (hop j (by omega)).2 (fun hx => ev_r1 ?_) (fun hx => ev_r1 ?_))
      · refine ev_if_neT (tgt := 38) (ev_dt dt_Conditions_pass_0 21 rfl) (by decide) z10 ?_
        refine ev_inc1_2 (ev_dt dt_Conditions_pass_0 24 rfl) (by decide) rfl ?_
        refine ev_goto (tgt := 2) (ev_dt dt_Conditions_pass_0 25 rfl) (by decide) ?_
        exact ih (j + 1) (by omega) (fun i hi => by
          by_cases e : i = j
          · subst e; exact hx
          · exact hall i (by omega))
      · refine ev_if_neF (tgt := 38) (ev_dt dt_Conditions_pass_0 21 rfl) (by decide) z00 ?_
        refine ev_ic0 (ev_dt dt_Conditions_pass_0 22 rfl) ?_
        exact ev_ireturn (ev_dt dt_Conditions_pass_0 23 rfl) rfl bz0 (kf (fun hz => by rw [hz j (by omega)] at hx; cases hx))
  refine ev_ic0 (ev_dt dt_Conditions_pass_0 0 rfl) ?_
  refine ev_istore_2 (ev_dt dt_Conditions_pass_0 1 rfl) (by decide) rfl ?_
  exact loop c 0 (by omega) (fun i hi => absurd hi (Nat.not_lt_zero _))
end C1
