/-! Nodes of the class, and what they say (written by gen_c3.py over walk.py). -/
theorem l_sub (a b : Int32) : (a.toInt64 - b.toInt64).toInt = a.toInt - b.toInt := by
  rw [Int64.toInt_sub, Int32.toInt_toInt64, Int32.toInt_toInt64]
  have h1 := Int32.toInt_lt a
  have h2 := Int32.le_toInt a
  have h3 := Int32.toInt_lt b
  have h4 := Int32.le_toInt b
  exact Int.bmod_eq_of_le (by omega) (by omega)
theorem ge_iff {x y : Int64} : 0 ≤ lg_cmp x y ↔ y.toInt ≤ x.toInt := by rw [lg_cmp_ge, Int64.le_iff_toInt_le]
/-- node n at its address -/
def NdAt (E : ev_E) (N : nod) (ed : Nat → Nat → Int32) (zs : Nat → Nat) (cs : Nat → Int32) (ad : Nat → Nat) (n : Nat) (h : ev_h) : Prop :=
  (nK N n < 4 ∧ nC N n < 4 ∧ h (ad n) = some (oB 6 [.int (nA N n), .int (if nK N n = 2 then nA N n else nB N n), .int (nI (nC N n)), .int (nI (nK N n)), .int (nI n), .int (nI (zs n)), .int (cs n)])) ∨
  (nK N n = 4 ∧ nC N n < 4 ∧ h (ad n) = some (oB 7 [.ref (ad n + 1), .int (nI (nC N n)), .int (nI 4), .int (nI n), .int (nI (zs n)), .int (cs n)]) ∧ h (ad n + 1) = some (iA E 10 (nY N n))) ∨
  (nK N n = 5 ∧ nC N n < 4 ∧ h (ad n) = some (oB 8 [.ref (ad n + 1), .ref (ad n + 2), .int (nI (nC N n)), .int (nI 5), .int (nI n), .int (nI (zs n)), .int (cs n)]) ∧ h (ad n + 1) = some (iA E 10 (ed n)) ∧ h (ad n + 2) = some (iA E 10 (nR N n))) ∨
  (6 ≤ nK N n ∧ nK N n ≤ 9 ∧ nL N n < n ∧ nQ N n < n ∧ h (ad n) = some (oB 9 [.ref (ad (nL N n)), .ref (ad (nQ N n)), .int (nI (nK N n)), .int (nI n), .int (nI (zs n)), .int (cs n)]))
def ndM (N : nod) (n : Nat) : ev_M := if nK N n < 6 then m_Order_says else m_Term_says
section C3
variable {E : ev_E} {d : Nat} {h : ev_h} {sz k n : Nat} {Q : ev_Q}
theorem t_ValueOrder_distance {N : nod} {zs : Nat → Nat} {cs : Nat → Int32} {ad : Nat → Nat} {i : Nat} {x : Int32} (ho : h (ad i) = some (oB 6 [.int (nA N i), .int (if nK N i = 2 then nA N i else nB N i), .int (nI (nC N i)), .int (nI (nK N i)), .int (nI i), .int (nI (zs i)), .int (cs i)])) (kk : ∀ r : Int64, r.toInt = dst (nA N i).toInt (if nK N i = 2 then nA N i else nB N i).toInt x.toInt → Q (.returned (some (.long r))) h sz k n) : Ev E m_ValueOrder_distance d 0 [some (.ref (ad i)), some (.int x)] [] h sz k n Q := by
  refine ev_iload_1 (ev_dt dt_ValueOrder_distance_0 0 rfl) ?_
  refine ev_aload_0 (ev_dt dt_ValueOrder_distance_0 1 rfl) ?_
  refine ev_get (ev_dt dt_ValueOrder_distance_0 2 rfl) g_ValueOrder_9_6 ho rfl ?_
  refine ev_icmp_ge (tgt := 17) (ev_dt dt_ValueOrder_distance_0 3 rfl) (by decide) (fun h1 => ?_) (fun h1 => ?_)
  · have h1' : ¬ x.toInt < (nA N i).toInt := fun e => absurd (Int32.lt_iff_toInt_lt.mpr e) (Int32.not_lt.mpr h1)
    refine ev_iload_1 (ev_dt dt_ValueOrder_distance_0 11 rfl) ?_
    refine ev_aload_0 (ev_dt dt_ValueOrder_distance_0 12 rfl) ?_
    refine ev_get (ev_dt dt_ValueOrder_distance_0 13 rfl) g_ValueOrder_15_6 ho rfl ?_
    refine ev_icmp_le (tgt := 36) (ev_dt dt_ValueOrder_distance_0 14 rfl) (by decide) (fun h2 => ?_) (fun h2 => ?_)
    · have h2' : ¬ (if nK N i = 2 then nA N i else nB N i).toInt < x.toInt := fun e => absurd (Int32.lt_iff_toInt_lt.mpr e) (Int32.not_lt.mpr h2)
      refine ev_lconst (ev_dt dt_ValueOrder_distance_0 22 rfl) rfl ?_
      exact ev_lreturn (ev_dt dt_ValueOrder_distance_0 23 rfl) rfl (kk _ (by rw [dst, if_neg (fun e => h1' e), if_neg (fun e => h2' e)]; decide +kernel))
    · have h2' : (if nK N i = 2 then nA N i else nB N i).toInt < x.toInt := Int32.lt_iff_toInt_lt.mp (Int32.not_le.mp h2)
      refine ev_iload_1 (ev_dt dt_ValueOrder_distance_0 15 rfl) ?_
      refine ev_i2l (ev_dt dt_ValueOrder_distance_0 16 rfl) rfl ?_
      refine ev_aload_0 (ev_dt dt_ValueOrder_distance_0 17 rfl) ?_
      refine ev_get (ev_dt dt_ValueOrder_distance_0 18 rfl) g_ValueOrder_15_6 ho rfl ?_
      refine ev_i2l (ev_dt dt_ValueOrder_distance_0 19 rfl) rfl ?_
      refine ev_lsub (ev_dt dt_ValueOrder_distance_0 20 rfl) rfl ?_
      refine ev_goto (tgt := 37) (ev_dt dt_ValueOrder_distance_0 21 rfl) (by decide) ?_
      exact ev_lreturn (ev_dt dt_ValueOrder_distance_0 23 rfl) rfl (kk _ (by rw [l_sub, dst, if_neg (fun e => h1' e), if_pos h2']))
  · have h1' : x.toInt < (nA N i).toInt := Int32.lt_iff_toInt_lt.mp (Int32.not_le.mp h1)
    refine ev_aload_0 (ev_dt dt_ValueOrder_distance_0 4 rfl) ?_
    refine ev_get (ev_dt dt_ValueOrder_distance_0 5 rfl) g_ValueOrder_9_6 ho rfl ?_
    refine ev_i2l (ev_dt dt_ValueOrder_distance_0 6 rfl) rfl ?_
    refine ev_iload_1 (ev_dt dt_ValueOrder_distance_0 7 rfl) ?_
    refine ev_i2l (ev_dt dt_ValueOrder_distance_0 8 rfl) rfl ?_
    refine ev_lsub (ev_dt dt_ValueOrder_distance_0 9 rfl) rfl ?_
    exact ev_lreturn (ev_dt dt_ValueOrder_distance_0 10 rfl) rfl (kk _ (by rw [l_sub, dst, if_pos h1']))
theorem t_prefers_6 {N : nod} {zs : Nat → Nat} {cs : Nat → Int32} {ad : Nat → Nat} {i : Nat} {x y : Int32} (hK : nK N i < 4) (ho : h (ad i) = some (oB 6 [.int (nA N i), .int (if nK N i = 2 then nA N i else nB N i), .int (nI (nC N i)), .int (nI (nK N i)), .int (nI i), .int (nI (zs i)), .int (cs i)])) (kt : pf N i x y = true → Q (.returned (some (.int (nI 1)))) h sz k n) (kf : pf N i x y = false → Q (.returned (some (.int (nI 0)))) h sz k n) : Ev E m_ValueOrder_prefers (d + 1) 0 [some (.ref (ad i)), some (.int x), some (.int y)] [] h sz k n Q := by
  obtain hk | hk | hk | hk : nK N i = 0 ∨ nK N i = 1 ∨ nK N i = 2 ∨ nK N i = 3 := by omega
  · refine ev_aload_0 (ev_dt dt_ValueOrder_prefers_0 0 rfl) ?_
    refine ev_get (ev_dt dt_ValueOrder_prefers_0 1 rfl) g_ValueOrder_18_6 ho rfl ?_
    rw [hk]
    refine ev_look (tgt := 32) (off := 28) (ev_dt dt_ValueOrder_prefers_0 2 rfl) (by decide +kernel) (by decide +kernel) (by decide) ?_
    refine ev_iload_1 (ev_dt dt_ValueOrder_prefers_0 3 rfl) ?_
    refine ev_iload_2 (ev_dt dt_ValueOrder_prefers_0 4 rfl) ?_
    refine ev_icmp_ge (tgt := 41) (ev_dt dt_ValueOrder_prefers_0 5 rfl) (by decide) (fun hb => ?_) (fun hb => ?_)
    · refine ev_ic0 (ev_dt dt_ValueOrder_prefers_0 8 rfl) ?_
      exact ev_ireturn (ev_dt dt_ValueOrder_prefers_0 9 rfl) rfl bz0 (kf (by simp only [pf, hk]; simpa [Int32.not_le, Int32.not_lt] using hb))
    · refine ev_ic1 (ev_dt dt_ValueOrder_prefers_0 6 rfl) ?_
      refine ev_goto (tgt := 42) (ev_dt dt_ValueOrder_prefers_0 7 rfl) (by decide) ?_
      exact ev_ireturn (ev_dt dt_ValueOrder_prefers_0 9 rfl) rfl bz1 (kt (by simp only [pf, hk]; simpa [Int32.not_le, Int32.not_lt] using hb))
  · refine ev_aload_0 (ev_dt dt_ValueOrder_prefers_0 0 rfl) ?_
    refine ev_get (ev_dt dt_ValueOrder_prefers_0 1 rfl) g_ValueOrder_18_6 ho rfl ?_
    rw [hk]
    refine ev_look (tgt := 43) (off := 39) (ev_dt dt_ValueOrder_prefers_0 2 rfl) (by decide +kernel) (by decide +kernel) (by decide) ?_
    refine ev_iload_1 (ev_dt dt_ValueOrder_prefers_0 10 rfl) ?_
    refine ev_iload_2 (ev_dt dt_ValueOrder_prefers_0 11 rfl) ?_
    refine ev_icmp_le (tgt := 52) (ev_dt dt_ValueOrder_prefers_0 12 rfl) (by decide) (fun hb => ?_) (fun hb => ?_)
    · refine ev_ic0 (ev_dt dt_ValueOrder_prefers_0 15 rfl) ?_
      exact ev_ireturn (ev_dt dt_ValueOrder_prefers_0 16 rfl) rfl bz0 (kf (by simp only [pf, hk]; simpa [Int32.not_le, Int32.not_lt] using hb))
    · refine ev_ic1 (ev_dt dt_ValueOrder_prefers_0 13 rfl) ?_
      refine ev_goto (tgt := 53) (ev_dt dt_ValueOrder_prefers_0 14 rfl) (by decide) ?_
      exact ev_ireturn (ev_dt dt_ValueOrder_prefers_0 16 rfl) rfl bz1 (kt (by simp only [pf, hk]; simpa [Int32.not_le, Int32.not_lt] using hb))
  · refine ev_aload_0 (ev_dt dt_ValueOrder_prefers_0 0 rfl) ?_
    refine ev_get (ev_dt dt_ValueOrder_prefers_0 1 rfl) g_ValueOrder_18_6 ho rfl ?_
    rw [hk]
    refine ev_look (tgt := 54) (off := 50) (ev_dt dt_ValueOrder_prefers_0 2 rfl) (by decide +kernel) (by decide +kernel) (by decide) ?_
    refine ev_aload_0 (ev_dt dt_ValueOrder_prefers_0 17 rfl) ?_
    refine ev_iload_1 (ev_dt dt_ValueOrder_prefers_0 18 rfl) ?_
    refine ev_callV (ev_dt dt_ValueOrder_prefers_0 19 rfl) v_ValueOrder_21_6 ho [.int x] rfl np_ValueOrder_distance rfl (ev_lk_of (j := 0) rfl rfl) (t_ValueOrder_distance ho (fun r1 e1 => ev_r1 ?_))
    refine ev_aload_0 (ev_dt dt_ValueOrder_prefers_0 20 rfl) ?_
    refine ev_iload_2 (ev_dt dt_ValueOrder_prefers_0 21 rfl) ?_
    refine ev_callV (ev_dt dt_ValueOrder_prefers_0 22 rfl) v_ValueOrder_21_6 ho [.int y] rfl np_ValueOrder_distance rfl (ev_lk_of (j := 0) rfl rfl) (t_ValueOrder_distance ho (fun r2 e2 => ev_r1 ?_))
    refine ev_lcmp (ev_dt dt_ValueOrder_prefers_0 23 rfl) ?_
    have hpf : pf N i x y = decide (r1.toInt < r2.toInt) := by rw [e1, e2]; simp [pf, hk]
    refine ev_if_ge (tgt := 72) (ev_dt dt_ValueOrder_prefers_0 24 rfl) (by decide) (fun hb => ?_) (fun hb => ?_)
    · refine ev_ic0 (ev_dt dt_ValueOrder_prefers_0 27 rfl) ?_
      exact ev_ireturn (ev_dt dt_ValueOrder_prefers_0 28 rfl) rfl bz0 (kf (by rw [hpf, decide_eq_false_iff_not]; have := ge_iff.mp hb; omega))
    · refine ev_ic1 (ev_dt dt_ValueOrder_prefers_0 25 rfl) ?_
      refine ev_goto (tgt := 73) (ev_dt dt_ValueOrder_prefers_0 26 rfl) (by decide) ?_
      exact ev_ireturn (ev_dt dt_ValueOrder_prefers_0 28 rfl) rfl bz1 (kt (by rw [hpf, decide_eq_true_iff]; have := mt ge_iff.mpr hb; omega))
  · refine ev_aload_0 (ev_dt dt_ValueOrder_prefers_0 0 rfl) ?_
    refine ev_get (ev_dt dt_ValueOrder_prefers_0 1 rfl) g_ValueOrder_18_6 ho rfl ?_
    rw [hk]
    refine ev_look (tgt := 54) (off := 50) (ev_dt dt_ValueOrder_prefers_0 2 rfl) (by decide +kernel) (by decide +kernel) (by decide) ?_
    refine ev_aload_0 (ev_dt dt_ValueOrder_prefers_0 17 rfl) ?_
    refine ev_iload_1 (ev_dt dt_ValueOrder_prefers_0 18 rfl) ?_
    refine ev_callV (ev_dt dt_ValueOrder_prefers_0 19 rfl) v_ValueOrder_21_6 ho [.int x] rfl np_ValueOrder_distance rfl (ev_lk_of (j := 0) rfl rfl) (t_ValueOrder_distance ho (fun r1 e1 => ev_r1 ?_))
    refine ev_aload_0 (ev_dt dt_ValueOrder_prefers_0 20 rfl) ?_
    refine ev_iload_2 (ev_dt dt_ValueOrder_prefers_0 21 rfl) ?_
    refine ev_callV (ev_dt dt_ValueOrder_prefers_0 22 rfl) v_ValueOrder_21_6 ho [.int y] rfl np_ValueOrder_distance rfl (ev_lk_of (j := 0) rfl rfl) (t_ValueOrder_distance ho (fun r2 e2 => ev_r1 ?_))
    refine ev_lcmp (ev_dt dt_ValueOrder_prefers_0 23 rfl) ?_
    have hpf : pf N i x y = decide (r1.toInt < r2.toInt) := by rw [e1, e2]; simp [pf, hk]
    refine ev_if_ge (tgt := 72) (ev_dt dt_ValueOrder_prefers_0 24 rfl) (by decide) (fun hb => ?_) (fun hb => ?_)
    · refine ev_ic0 (ev_dt dt_ValueOrder_prefers_0 27 rfl) ?_
      exact ev_ireturn (ev_dt dt_ValueOrder_prefers_0 28 rfl) rfl bz0 (kf (by rw [hpf, decide_eq_false_iff_not]; have := ge_iff.mp hb; omega))
    · refine ev_ic1 (ev_dt dt_ValueOrder_prefers_0 25 rfl) ?_
      refine ev_goto (tgt := 73) (ev_dt dt_ValueOrder_prefers_0 26 rfl) (by decide) ?_
      exact ev_ireturn (ev_dt dt_ValueOrder_prefers_0 28 rfl) rfl bz1 (kt (by rw [hpf, decide_eq_true_iff]; have := mt ge_iff.mpr hb; omega))
theorem t_Layers_find {N : nod} {zs : Nat → Nat} {cs : Nat → Int32} {ad : Nat → Nat} {i : Nat} {x : Int32} (ho : h (ad i) = some (oB 7 [.ref (ad i + 1), .int (nI (nC N i)), .int (nI 4), .int (nI i), .int (nI (zs i)), .int (cs i)])) (hy : h (ad i + 1) = some (iA E 10 (nY N i))) (kk : Q (.returned (some (.int (lyr (nY N i) x)))) h sz k n) : Ev E m_Layers_find (d + 1) 0 [some (.ref (ad i)), some (.int x)] [] h sz k n Q := by
  refine ev_iload_1 (ev_dt dt_Layers_find_0 0 rfl) ?_
  refine ev_callS (ev_dt dt_Layers_find_0 1 rfl) s_Layers_19 [.int x] rfl np_PT_isGraded rfl (ev_lk_of (j := 0) rfl rfl) (t_PT_isGraded (fun hx => ev_r1 ?_) (fun hx => ev_r1 ?_))
  · obtain ⟨j, hj, rfl⟩ := hx
    refine ev_if_eqF (tgt := 16) (ev_dt dt_Layers_find_0 2 rfl) (by decide) z10 ?_
    refine ev_aload_0 (ev_dt dt_Layers_find_0 3 rfl) ?_
    refine ev_get (ev_dt dt_Layers_find_0 4 rfl) g_Layers_9_7 ho rfl ?_
    refine ev_iload_1 (ev_dt dt_Layers_find_0 5 rfl) ?_
    refine ev_iald (ev_dt dt_Layers_find_0 6 rfl) hy (by omega) (by decide) rfl ?_
    refine ev_goto (tgt := 17) (ev_dt dt_Layers_find_0 7 rfl) (by decide) ?_
    rw [show nY N i j = lyr (nY N i) (nI j) by rw [lyr, if_pos (gr_nI hj), nI_clamp (by omega)]]
    exact ev_ireturn (ev_dt dt_Layers_find_0 9 rfl) rfl rfl kk
  · refine ev_if_eqT (tgt := 16) (ev_dt dt_Layers_find_0 2 rfl) (by decide) z00 ?_
    refine ev_icm (ev_dt dt_Layers_find_0 8 rfl) ?_
    rw [show (-1 : Int32) = lyr (nY N i) x by rw [lyr, if_neg (fun e => hx _ (gr_of e).1 (gr_of e).2)]]
    exact ev_ireturn (ev_dt dt_Layers_find_0 9 rfl) rfl rfl kk
theorem t_prefers_7 {N : nod} {zs : Nat → Nat} {cs : Nat → Int32} {ad : Nat → Nat} {i : Nat} {x y : Int32} (hK : nK N i = 4) (ho : h (ad i) = some (oB 7 [.ref (ad i + 1), .int (nI (nC N i)), .int (nI 4), .int (nI i), .int (nI (zs i)), .int (cs i)])) (hy : h (ad i + 1) = some (iA E 10 (nY N i))) (kt : pf N i x y = true → Q (.returned (some (.int (nI 1)))) h sz k n) (kf : pf N i x y = false → Q (.returned (some (.int (nI 0)))) h sz k n) : Ev E m_Layers_prefers (d + 2) 0 [some (.ref (ad i)), some (.int x), some (.int y), none, none] [] h sz k n Q := by
  refine ev_aload_0 (ev_dt dt_Layers_prefers_0 0 rfl) ?_
  refine ev_iload_1 (ev_dt dt_Layers_prefers_0 1 rfl) ?_
  refine ev_callV (ev_dt dt_Layers_prefers_0 2 rfl) v_Layers_15_7 ho [.int x] rfl np_Layers_find rfl (ev_lk_of (j := 0) rfl rfl) (t_Layers_find ho hy (ev_r1 ?_))
  refine ev_istore_3 (ev_dt dt_Layers_prefers_0 3 rfl) (by decide) rfl ?_
  refine ev_aload_0 (ev_dt dt_Layers_prefers_0 4 rfl) ?_
  refine ev_iload_2 (ev_dt dt_Layers_prefers_0 5 rfl) ?_
  refine ev_callV (ev_dt dt_Layers_prefers_0 6 rfl) v_Layers_15_7 ho [.int y] rfl np_Layers_find rfl (ev_lk_of (j := 0) rfl rfl) (t_Layers_find ho hy (ev_r1 ?_))
  refine ev_istore_4 (ev_dt dt_Layers_prefers_0 7 rfl) (by decide) rfl ?_
  refine ev_iload_3 (ev_dt dt_Layers_prefers_0 8 rfl) ?_
  refine ev_icm (ev_dt dt_Layers_prefers_0 9 rfl) ?_
  have hpf : pf N i x y = (decide (lyr (nY N i) x ≠ -1) && (decide (lyr (nY N i) y = -1) || decide (lyr (nY N i) x < lyr (nY N i) y))) := by simp [pf, hK]
  refine ev_icmp_eq (tgt := 34) (ev_dt dt_Layers_prefers_0 10 rfl) (by decide) (fun h1 => ?_) (fun h1 => ?_)
  · refine ev_ic0 (ev_dt dt_Layers_prefers_0 19 rfl) ?_
    exact ev_ireturn (ev_dt dt_Layers_prefers_0 20 rfl) rfl bz0 (kf (by rw [hpf]; simp [h1]))
  · refine ev_iload_4 (ev_dt dt_Layers_prefers_0 11 rfl) ?_
    refine ev_icm (ev_dt dt_Layers_prefers_0 12 rfl) ?_
    refine ev_icmp_eq (tgt := 30) (ev_dt dt_Layers_prefers_0 13 rfl) (by decide) (fun h2 => ?_) (fun h2 => ?_)
    · refine ev_ic1 (ev_dt dt_Layers_prefers_0 17 rfl) ?_
      refine ev_goto (tgt := 35) (ev_dt dt_Layers_prefers_0 18 rfl) (by decide) ?_
      exact ev_ireturn (ev_dt dt_Layers_prefers_0 20 rfl) rfl bz1 (kt (by rw [hpf]; simp [h1, h2]))
    · refine ev_iload_4 (ev_dt dt_Layers_prefers_0 14 rfl) ?_
      refine ev_iload_3 (ev_dt dt_Layers_prefers_0 15 rfl) ?_
      refine ev_icmp_le (tgt := 34) (ev_dt dt_Layers_prefers_0 16 rfl) (by decide) (fun h3 => ?_) (fun h3 => ?_)
      · refine ev_ic0 (ev_dt dt_Layers_prefers_0 19 rfl) ?_
        exact ev_ireturn (ev_dt dt_Layers_prefers_0 20 rfl) rfl bz0 (kf (by rw [hpf]; simp [h1, h2, Int32.not_lt.mpr h3]))
      · refine ev_ic1 (ev_dt dt_Layers_prefers_0 17 rfl) ?_
        refine ev_goto (tgt := 35) (ev_dt dt_Layers_prefers_0 18 rfl) (by decide) ?_
        exact ev_ireturn (ev_dt dt_Layers_prefers_0 20 rfl) rfl bz1 (kt (by rw [hpf]; simp [h1, h2, Int32.not_le.mp h3]))
theorem t_Graph_leads {N : nod} {zs : Nat → Nat} {cs : Nat → Int32} {ad : Nat → Nat} {i : Nat} {x y : Nat} (hx : x < 10) (hy : y < 10) (ho : h (ad i) = some (oB 8 [.ref (ad i + 1), .ref (ad i + 2), .int (nI (nC N i)), .int (nI 5), .int (nI i), .int (nI (zs i)), .int (cs i)])) (hr : h (ad i + 2) = some (iA E 10 (nR N i))) (kt : bt (nR N i x) y = true → Q (.returned (some (.int (nI 1)))) h sz k n) (kf : bt (nR N i x) y = false → Q (.returned (some (.int (nI 0)))) h sz k n) : Ev E m_Graph_leads d 0 [some (.ref (ad i)), some (.int (nI x)), some (.int (nI y))] [] h sz k n Q := by
  refine ev_aload_0 (ev_dt dt_Graph_leads_0 0 rfl) ?_
  refine ev_get (ev_dt dt_Graph_leads_0 1 rfl) g_Graph_15_8 ho rfl ?_
  refine ev_iload_1 (ev_dt dt_Graph_leads_0 2 rfl) ?_
  refine ev_iald (ev_dt dt_Graph_leads_0 3 rfl) hr (by omega) (by decide) rfl ?_
  refine ev_iload_2 (ev_dt dt_Graph_leads_0 4 rfl) ?_
  refine ev_ishr (ev_dt dt_Graph_leads_0 5 rfl) rfl ?_
  refine ev_ic1 (ev_dt dt_Graph_leads_0 6 rfl) ?_
  refine ev_iand (ev_dt dt_Graph_leads_0 7 rfl) rfl ?_
  refine ev_ic1 (ev_dt dt_Graph_leads_0 8 rfl) ?_
  refine ev_icmp_ne (tgt := 18) (ev_dt dt_Graph_leads_0 9 rfl) (by decide) (fun h1 => ?_) (fun h1 => ?_)
  · refine ev_ic0 (ev_dt dt_Graph_leads_0 12 rfl) ?_
    exact ev_ireturn (ev_dt dt_Graph_leads_0 13 rfl) rfl bz0 (kf (Bool.eq_false_iff.mpr (fun e => h1 ((q_tst (by omega)).mpr e))))
  · refine ev_ic1 (ev_dt dt_Graph_leads_0 10 rfl) ?_
    refine ev_goto (tgt := 19) (ev_dt dt_Graph_leads_0 11 rfl) (by decide) ?_
    exact ev_ireturn (ev_dt dt_Graph_leads_0 13 rfl) rfl bz1 (kt ((q_tst (by omega)).mp h1))
theorem t_prefers_8 {N : nod} {zs : Nat → Nat} {cs : Nat → Int32} {ad : Nat → Nat} {i : Nat} {x y : Int32} (hK : nK N i = 5) (ho : h (ad i) = some (oB 8 [.ref (ad i + 1), .ref (ad i + 2), .int (nI (nC N i)), .int (nI 5), .int (nI i), .int (nI (zs i)), .int (cs i)])) (hr : h (ad i + 2) = some (iA E 10 (nR N i))) (kt : pf N i x y = true → Q (.returned (some (.int (nI 1)))) h sz k n) (kf : pf N i x y = false → Q (.returned (some (.int (nI 0)))) h sz k n) : Ev E m_Graph_prefers (d + 1) 0 [some (.ref (ad i)), some (.int x), some (.int y)] [] h sz k n Q := by
  refine ev_iload_1 (ev_dt dt_Graph_prefers_0 0 rfl) ?_
  refine ev_callS (ev_dt dt_Graph_prefers_0 1 rfl) s_Graph_18 [.int x] rfl np_PT_isGraded rfl (ev_lk_of (j := 0) rfl rfl) (t_PT_isGraded (fun hx => ev_r1 ?_) (fun hx => ev_r1 ?_))
  · obtain ⟨j, hj, rfl⟩ := hx
    refine ev_if_eqF (tgt := 27) (ev_dt dt_Graph_prefers_0 2 rfl) (by decide) z10 ?_
    refine ev_iload_2 (ev_dt dt_Graph_prefers_0 3 rfl) ?_
    refine ev_callS (ev_dt dt_Graph_prefers_0 4 rfl) s_Graph_18 [.int y] rfl np_PT_isGraded rfl (ev_lk_of (j := 0) rfl rfl) (t_PT_isGraded (fun hx => ev_r1 ?_) (fun hx => ev_r1 ?_))
    · obtain ⟨l, hl, rfl⟩ := hx
      refine ev_if_eqF (tgt := 27) (ev_dt dt_Graph_prefers_0 5 rfl) (by decide) z10 ?_
      refine ev_aload_0 (ev_dt dt_Graph_prefers_0 6 rfl) ?_
      refine ev_iload_1 (ev_dt dt_Graph_prefers_0 7 rfl) ?_
      refine ev_iload_2 (ev_dt dt_Graph_prefers_0 8 rfl) ?_
      have hpf : pf N i (nI j) (nI l) = bt (nR N i j) l := by simp [pf, hK, gr_nI hj, gr_nI hl, nI_clamp (show j < 2 ^ 31 by omega), nI_clamp (show l < 2 ^ 31 by omega)]
      refine ev_callV (ev_dt dt_Graph_prefers_0 9 rfl) v_Graph_22_8 ho [.int (nI j), .int (nI l)] rfl np_Graph_leads rfl (ev_lk_of (j := 0) rfl rfl) (t_Graph_leads hj hl ho hr (fun hx => ev_r1 ?_) (fun hx => ev_r1 ?_))
      · refine ev_if_eqF (tgt := 27) (ev_dt dt_Graph_prefers_0 10 rfl) (by decide) z10 ?_
        refine ev_ic1 (ev_dt dt_Graph_prefers_0 11 rfl) ?_
        refine ev_goto (tgt := 28) (ev_dt dt_Graph_prefers_0 12 rfl) (by decide) ?_
        exact ev_ireturn (ev_dt dt_Graph_prefers_0 14 rfl) rfl bz1 (kt (hpf.trans hx))
      · refine ev_if_eqT (tgt := 27) (ev_dt dt_Graph_prefers_0 10 rfl) (by decide) z00 ?_
        refine ev_ic0 (ev_dt dt_Graph_prefers_0 13 rfl) ?_
        exact ev_ireturn (ev_dt dt_Graph_prefers_0 14 rfl) rfl bz0 (kf (hpf.trans hx))
    · refine ev_if_eqT (tgt := 27) (ev_dt dt_Graph_prefers_0 5 rfl) (by decide) z00 ?_
      refine ev_ic0 (ev_dt dt_Graph_prefers_0 13 rfl) ?_
      have hg : gr y = false := Bool.eq_false_iff.mpr (fun e => hx _ (gr_of e).1 (gr_of e).2)
      exact ev_ireturn (ev_dt dt_Graph_prefers_0 14 rfl) rfl bz0 (kf (by simp [pf, hK, hg]))
  · refine ev_if_eqT (tgt := 27) (ev_dt dt_Graph_prefers_0 2 rfl) (by decide) z00 ?_
    refine ev_ic0 (ev_dt dt_Graph_prefers_0 13 rfl) ?_
    have hg : gr x = false := Bool.eq_false_iff.mpr (fun e => hx _ (gr_of e).1 (gr_of e).2)
    exact ev_ireturn (ev_dt dt_Graph_prefers_0 14 rfl) rfl bz0 (kf (by simp [pf, hK, hg]))
theorem t_Order_says_6 {N : nod} {zs : Nat → Nat} {cs : Nat → Int32} {ad : Nat → Nat} {i : Nat} {u v : Nat} {U V : Nat → Int32} (hK : nK N i < 4) (hcl : nC N i < 4) (ho : h (ad i) = some (oB 6 [.int (nA N i), .int (if nK N i = 2 then nA N i else nB N i), .int (nI (nC N i)), .int (nI (nK N i)), .int (nI i), .int (nI (zs i)), .int (cs i)])) (hu : h u = some (iA E 4 U)) (hv : h v = some (iA E 4 V)) (kk : Q (.returned (some (.int (nI (say N U V i).val)))) h sz k n) : Ev E m_Order_says (d + 3) 0 [some (.ref (ad i)), some (.ref u), some (.ref v), none, none] [] h sz k n Q := by
  have hs : say N U V i = so N i (U (nC N i)) (V (nC N i)) := say_o (by omega)
  refine ev_aload_1 (ev_dt dt_Order_says_0 0 rfl) ?_
  refine ev_aload_0 (ev_dt dt_Order_says_0 1 rfl) ?_
  refine ev_get (ev_dt dt_Order_says_0 2 rfl) g_Order_9_6 ho rfl ?_
  refine ev_iald (ev_dt dt_Order_says_0 3 rfl) hu (by omega) (by decide) rfl ?_
  refine ev_istore_3 (ev_dt dt_Order_says_0 4 rfl) (by decide) rfl ?_
  refine ev_aload_2 (ev_dt dt_Order_says_0 5 rfl) ?_
  refine ev_aload_0 (ev_dt dt_Order_says_0 6 rfl) ?_
  refine ev_get (ev_dt dt_Order_says_0 7 rfl) g_Order_9_6 ho rfl ?_
  refine ev_iald (ev_dt dt_Order_says_0 8 rfl) hv (by omega) (by decide) rfl ?_
  refine ev_istore_4 (ev_dt dt_Order_says_0 9 rfl) (by decide) rfl ?_
  refine ev_iload_3 (ev_dt dt_Order_says_0 10 rfl) ?_
  refine ev_iload_4 (ev_dt dt_Order_says_0 11 rfl) ?_
  refine ev_icmp_ne (tgt := 23) (ev_dt dt_Order_says_0 12 rfl) (by decide) (fun h1 => ?_) (fun h1 => ?_)
  · refine ev_aload_0 (ev_dt dt_Order_says_0 15 rfl) ?_
    refine ev_iload_3 (ev_dt dt_Order_says_0 16 rfl) ?_
    refine ev_iload_4 (ev_dt dt_Order_says_0 17 rfl) ?_
    refine ev_callU (ev_dt dt_Order_says_0 18 rfl) u_Order_15_6 ho [.int (U (nC N i)), .int (V (nC N i))] rfl np_ValueOrder_prefers rfl (ev_lk_of (j := 0) rfl rfl) (t_prefers_6 hK ho (fun hx => ev_r1 ?_) (fun hx => ev_r1 ?_))
    · refine ev_if_eqF (tgt := 35) (ev_dt dt_Order_says_0 19 rfl) (by decide) z10 ?_
      refine ev_ic1 (ev_dt dt_Order_says_0 20 rfl) ?_
      rw [hs, so, if_neg h1, if_pos hx] at kk
      exact ev_ireturn (ev_dt dt_Order_says_0 21 rfl) rfl rfl kk
    · refine ev_if_eqT (tgt := 35) (ev_dt dt_Order_says_0 19 rfl) (by decide) z00 ?_
      refine ev_aload_0 (ev_dt dt_Order_says_0 22 rfl) ?_
      refine ev_iload_4 (ev_dt dt_Order_says_0 23 rfl) ?_
      refine ev_iload_3 (ev_dt dt_Order_says_0 24 rfl) ?_
      refine ev_callU (ev_dt dt_Order_says_0 25 rfl) u_Order_15_6 ho [.int (V (nC N i)), .int (U (nC N i))] rfl np_ValueOrder_prefers rfl (ev_lk_of (j := 0) rfl rfl) (t_prefers_6 hK ho (fun hx2 => ev_r1 ?_) (fun hx2 => ev_r1 ?_))
      · refine ev_if_eqF (tgt := 49) (ev_dt dt_Order_says_0 26 rfl) (by decide) z10 ?_
        refine ev_ic2 (ev_dt dt_Order_says_0 27 rfl) ?_
        refine ev_goto (tgt := 50) (ev_dt dt_Order_says_0 28 rfl) (by decide) ?_
        rw [hs, so, if_neg h1, if_neg (by rw [hx]; decide), if_pos hx2] at kk
        exact ev_ireturn (ev_dt dt_Order_says_0 30 rfl) rfl rfl kk
      · refine ev_if_eqT (tgt := 49) (ev_dt dt_Order_says_0 26 rfl) (by decide) z00 ?_
        refine ev_ic0 (ev_dt dt_Order_says_0 29 rfl) ?_
        rw [hs, so, if_neg h1, if_neg (by rw [hx]; decide), if_neg (by rw [hx2]; decide)] at kk
        exact ev_ireturn (ev_dt dt_Order_says_0 30 rfl) rfl rfl kk
  · refine ev_ic3 (ev_dt dt_Order_says_0 13 rfl) ?_
    rw [hs, so, if_pos h1] at kk
    exact ev_ireturn (ev_dt dt_Order_says_0 14 rfl) rfl rfl kk
theorem t_Order_says_7 {N : nod} {zs : Nat → Nat} {cs : Nat → Int32} {ad : Nat → Nat} {i : Nat} {u v : Nat} {U V : Nat → Int32} (hK : nK N i = 4) (hcl : nC N i < 4) (ho : h (ad i) = some (oB 7 [.ref (ad i + 1), .int (nI (nC N i)), .int (nI 4), .int (nI i), .int (nI (zs i)), .int (cs i)])) (hy : h (ad i + 1) = some (iA E 10 (nY N i))) (hu : h u = some (iA E 4 U)) (hv : h v = some (iA E 4 V)) (kk : Q (.returned (some (.int (nI (say N U V i).val)))) h sz k n) : Ev E m_Order_says (d + 3) 0 [some (.ref (ad i)), some (.ref u), some (.ref v), none, none] [] h sz k n Q := by
  have hs : say N U V i = so N i (U (nC N i)) (V (nC N i)) := say_o (by omega)
  refine ev_aload_1 (ev_dt dt_Order_says_0 0 rfl) ?_
  refine ev_aload_0 (ev_dt dt_Order_says_0 1 rfl) ?_
  refine ev_get (ev_dt dt_Order_says_0 2 rfl) g_Order_9_7 ho rfl ?_
  refine ev_iald (ev_dt dt_Order_says_0 3 rfl) hu (by omega) (by decide) rfl ?_
  refine ev_istore_3 (ev_dt dt_Order_says_0 4 rfl) (by decide) rfl ?_
  refine ev_aload_2 (ev_dt dt_Order_says_0 5 rfl) ?_
  refine ev_aload_0 (ev_dt dt_Order_says_0 6 rfl) ?_
  refine ev_get (ev_dt dt_Order_says_0 7 rfl) g_Order_9_7 ho rfl ?_
  refine ev_iald (ev_dt dt_Order_says_0 8 rfl) hv (by omega) (by decide) rfl ?_
  refine ev_istore_4 (ev_dt dt_Order_says_0 9 rfl) (by decide) rfl ?_
  refine ev_iload_3 (ev_dt dt_Order_says_0 10 rfl) ?_
  refine ev_iload_4 (ev_dt dt_Order_says_0 11 rfl) ?_
  refine ev_icmp_ne (tgt := 23) (ev_dt dt_Order_says_0 12 rfl) (by decide) (fun h1 => ?_) (fun h1 => ?_)
  · refine ev_aload_0 (ev_dt dt_Order_says_0 15 rfl) ?_
    refine ev_iload_3 (ev_dt dt_Order_says_0 16 rfl) ?_
    refine ev_iload_4 (ev_dt dt_Order_says_0 17 rfl) ?_
    refine ev_callU (ev_dt dt_Order_says_0 18 rfl) u_Order_15_7 ho [.int (U (nC N i)), .int (V (nC N i))] rfl np_Layers_prefers rfl (ev_lk_of (j := 2) rfl rfl) (t_prefers_7 hK ho hy (fun hx => ev_r1 ?_) (fun hx => ev_r1 ?_))
    · refine ev_if_eqF (tgt := 35) (ev_dt dt_Order_says_0 19 rfl) (by decide) z10 ?_
      refine ev_ic1 (ev_dt dt_Order_says_0 20 rfl) ?_
      rw [hs, so, if_neg h1, if_pos hx] at kk
      exact ev_ireturn (ev_dt dt_Order_says_0 21 rfl) rfl rfl kk
    · refine ev_if_eqT (tgt := 35) (ev_dt dt_Order_says_0 19 rfl) (by decide) z00 ?_
      refine ev_aload_0 (ev_dt dt_Order_says_0 22 rfl) ?_
      refine ev_iload_4 (ev_dt dt_Order_says_0 23 rfl) ?_
      refine ev_iload_3 (ev_dt dt_Order_says_0 24 rfl) ?_
      refine ev_callU (ev_dt dt_Order_says_0 25 rfl) u_Order_15_7 ho [.int (V (nC N i)), .int (U (nC N i))] rfl np_Layers_prefers rfl (ev_lk_of (j := 2) rfl rfl) (t_prefers_7 hK ho hy (fun hx2 => ev_r1 ?_) (fun hx2 => ev_r1 ?_))
      · refine ev_if_eqF (tgt := 49) (ev_dt dt_Order_says_0 26 rfl) (by decide) z10 ?_
        refine ev_ic2 (ev_dt dt_Order_says_0 27 rfl) ?_
        refine ev_goto (tgt := 50) (ev_dt dt_Order_says_0 28 rfl) (by decide) ?_
        rw [hs, so, if_neg h1, if_neg (by rw [hx]; decide), if_pos hx2] at kk
        exact ev_ireturn (ev_dt dt_Order_says_0 30 rfl) rfl rfl kk
      · refine ev_if_eqT (tgt := 49) (ev_dt dt_Order_says_0 26 rfl) (by decide) z00 ?_
        refine ev_ic0 (ev_dt dt_Order_says_0 29 rfl) ?_
        rw [hs, so, if_neg h1, if_neg (by rw [hx]; decide), if_neg (by rw [hx2]; decide)] at kk
        exact ev_ireturn (ev_dt dt_Order_says_0 30 rfl) rfl rfl kk
  · refine ev_ic3 (ev_dt dt_Order_says_0 13 rfl) ?_
    rw [hs, so, if_pos h1] at kk
    exact ev_ireturn (ev_dt dt_Order_says_0 14 rfl) rfl rfl kk
theorem t_Order_says_8 {N : nod} {zs : Nat → Nat} {cs : Nat → Int32} {ad : Nat → Nat} {i : Nat} {u v : Nat} {U V : Nat → Int32} (hK : nK N i = 5) (hcl : nC N i < 4) (ho : h (ad i) = some (oB 8 [.ref (ad i + 1), .ref (ad i + 2), .int (nI (nC N i)), .int (nI 5), .int (nI i), .int (nI (zs i)), .int (cs i)])) (hr : h (ad i + 2) = some (iA E 10 (nR N i))) (hu : h u = some (iA E 4 U)) (hv : h v = some (iA E 4 V)) (kk : Q (.returned (some (.int (nI (say N U V i).val)))) h sz k n) : Ev E m_Order_says (d + 3) 0 [some (.ref (ad i)), some (.ref u), some (.ref v), none, none] [] h sz k n Q := by
  have hs : say N U V i = so N i (U (nC N i)) (V (nC N i)) := say_o (by omega)
  refine ev_aload_1 (ev_dt dt_Order_says_0 0 rfl) ?_
  refine ev_aload_0 (ev_dt dt_Order_says_0 1 rfl) ?_
  refine ev_get (ev_dt dt_Order_says_0 2 rfl) g_Order_9_8 ho rfl ?_
  refine ev_iald (ev_dt dt_Order_says_0 3 rfl) hu (by omega) (by decide) rfl ?_
  refine ev_istore_3 (ev_dt dt_Order_says_0 4 rfl) (by decide) rfl ?_
  refine ev_aload_2 (ev_dt dt_Order_says_0 5 rfl) ?_
  refine ev_aload_0 (ev_dt dt_Order_says_0 6 rfl) ?_
  refine ev_get (ev_dt dt_Order_says_0 7 rfl) g_Order_9_8 ho rfl ?_
  refine ev_iald (ev_dt dt_Order_says_0 8 rfl) hv (by omega) (by decide) rfl ?_
  refine ev_istore_4 (ev_dt dt_Order_says_0 9 rfl) (by decide) rfl ?_
  refine ev_iload_3 (ev_dt dt_Order_says_0 10 rfl) ?_
  refine ev_iload_4 (ev_dt dt_Order_says_0 11 rfl) ?_
  refine ev_icmp_ne (tgt := 23) (ev_dt dt_Order_says_0 12 rfl) (by decide) (fun h1 => ?_) (fun h1 => ?_)
  · refine ev_aload_0 (ev_dt dt_Order_says_0 15 rfl) ?_
    refine ev_iload_3 (ev_dt dt_Order_says_0 16 rfl) ?_
    refine ev_iload_4 (ev_dt dt_Order_says_0 17 rfl) ?_
    refine ev_callU (ev_dt dt_Order_says_0 18 rfl) u_Order_15_8 ho [.int (U (nC N i)), .int (V (nC N i))] rfl np_Graph_prefers rfl (ev_lk_of (j := 0) rfl rfl) (t_prefers_8 hK ho hr (fun hx => ev_r1 ?_) (fun hx => ev_r1 ?_))
    · refine ev_if_eqF (tgt := 35) (ev_dt dt_Order_says_0 19 rfl) (by decide) z10 ?_
      refine ev_ic1 (ev_dt dt_Order_says_0 20 rfl) ?_
      rw [hs, so, if_neg h1, if_pos hx] at kk
      exact ev_ireturn (ev_dt dt_Order_says_0 21 rfl) rfl rfl kk
    · refine ev_if_eqT (tgt := 35) (ev_dt dt_Order_says_0 19 rfl) (by decide) z00 ?_
      refine ev_aload_0 (ev_dt dt_Order_says_0 22 rfl) ?_
      refine ev_iload_4 (ev_dt dt_Order_says_0 23 rfl) ?_
      refine ev_iload_3 (ev_dt dt_Order_says_0 24 rfl) ?_
      refine ev_callU (ev_dt dt_Order_says_0 25 rfl) u_Order_15_8 ho [.int (V (nC N i)), .int (U (nC N i))] rfl np_Graph_prefers rfl (ev_lk_of (j := 0) rfl rfl) (t_prefers_8 hK ho hr (fun hx2 => ev_r1 ?_) (fun hx2 => ev_r1 ?_))
      · refine ev_if_eqF (tgt := 49) (ev_dt dt_Order_says_0 26 rfl) (by decide) z10 ?_
        refine ev_ic2 (ev_dt dt_Order_says_0 27 rfl) ?_
        refine ev_goto (tgt := 50) (ev_dt dt_Order_says_0 28 rfl) (by decide) ?_
        rw [hs, so, if_neg h1, if_neg (by rw [hx]; decide), if_pos hx2] at kk
        exact ev_ireturn (ev_dt dt_Order_says_0 30 rfl) rfl rfl kk
      · refine ev_if_eqT (tgt := 49) (ev_dt dt_Order_says_0 26 rfl) (by decide) z00 ?_
        refine ev_ic0 (ev_dt dt_Order_says_0 29 rfl) ?_
        rw [hs, so, if_neg h1, if_neg (by rw [hx]; decide), if_neg (by rw [hx2]; decide)] at kk
        exact ev_ireturn (ev_dt dt_Order_says_0 30 rfl) rfl rfl kk
  · refine ev_ic3 (ev_dt dt_Order_says_0 13 rfl) ?_
    rw [hs, so, if_pos h1] at kk
    exact ev_ireturn (ev_dt dt_Order_says_0 14 rfl) rfl rfl kk
theorem fin4 (a : Fin 4) : a = 0 ∨ a = 1 ∨ a = 2 ∨ a = 3 := by revert a; decide
theorem t_Term_changedOver {a : Fin 4} (kk : Q (.returned (some (.int (nI (fl a).val)))) h sz k n) : Ev E m_Term_changedOver d 0 [some (.int (nI a.val))] [] h sz k n Q := by
  obtain rfl | rfl | rfl | rfl := fin4 a
  · refine ev_iload_0 (ev_dt dt_Term_changedOver_0 0 rfl) ?_
    refine ev_ic1 (ev_dt dt_Term_changedOver_0 1 rfl) ?_
    refine ev_icmp_neT (tgt := 7) (ev_dt dt_Term_changedOver_0 2 rfl) (by decide) (by decide +kernel) ?_
    refine ev_iload_0 (ev_dt dt_Term_changedOver_0 5 rfl) ?_
    refine ev_ic2 (ev_dt dt_Term_changedOver_0 6 rfl) ?_
    refine ev_icmp_neT (tgt := 16) (ev_dt dt_Term_changedOver_0 7 rfl) (by decide) (by decide +kernel) ?_
    refine ev_iload_0 (ev_dt dt_Term_changedOver_0 10 rfl) ?_
    exact ev_ireturn (ev_dt dt_Term_changedOver_0 11 rfl) rfl rfl kk
  · refine ev_iload_0 (ev_dt dt_Term_changedOver_0 0 rfl) ?_
    refine ev_ic1 (ev_dt dt_Term_changedOver_0 1 rfl) ?_
    refine ev_icmp_neF (tgt := 7) (ev_dt dt_Term_changedOver_0 2 rfl) (by decide) (by decide +kernel) ?_
    refine ev_ic2 (ev_dt dt_Term_changedOver_0 3 rfl) ?_
    exact ev_ireturn (ev_dt dt_Term_changedOver_0 4 rfl) rfl rfl kk
  · refine ev_iload_0 (ev_dt dt_Term_changedOver_0 0 rfl) ?_
    refine ev_ic1 (ev_dt dt_Term_changedOver_0 1 rfl) ?_
    refine ev_icmp_neT (tgt := 7) (ev_dt dt_Term_changedOver_0 2 rfl) (by decide) (by decide +kernel) ?_
    refine ev_iload_0 (ev_dt dt_Term_changedOver_0 5 rfl) ?_
    refine ev_ic2 (ev_dt dt_Term_changedOver_0 6 rfl) ?_
    refine ev_icmp_neF (tgt := 16) (ev_dt dt_Term_changedOver_0 7 rfl) (by decide) (by decide +kernel) ?_
    refine ev_ic1 (ev_dt dt_Term_changedOver_0 8 rfl) ?_
    refine ev_goto (tgt := 17) (ev_dt dt_Term_changedOver_0 9 rfl) (by decide) ?_
    exact ev_ireturn (ev_dt dt_Term_changedOver_0 11 rfl) rfl rfl kk
  · refine ev_iload_0 (ev_dt dt_Term_changedOver_0 0 rfl) ?_
    refine ev_ic1 (ev_dt dt_Term_changedOver_0 1 rfl) ?_
    refine ev_icmp_neT (tgt := 7) (ev_dt dt_Term_changedOver_0 2 rfl) (by decide) (by decide +kernel) ?_
    refine ev_iload_0 (ev_dt dt_Term_changedOver_0 5 rfl) ?_
    refine ev_ic2 (ev_dt dt_Term_changedOver_0 6 rfl) ?_
    refine ev_icmp_neT (tgt := 16) (ev_dt dt_Term_changedOver_0 7 rfl) (by decide) (by decide +kernel) ?_
    refine ev_iload_0 (ev_dt dt_Term_changedOver_0 10 rfl) ?_
    exact ev_ireturn (ev_dt dt_Term_changedOver_0 11 rfl) rfl rfl kk
theorem t_Term_paretoOf {a b : Fin 4} (hne : a ≠ b) (kk : Q (.returned (some (.int (nI (jn 6 a b).val)))) h sz k n) : Ev E m_Term_paretoOf d 0 [some (.int (nI a.val)), some (.int (nI b.val))] [] h sz k n Q := by
  obtain rfl | rfl | rfl | rfl := fin4 a
  · obtain rfl | rfl | rfl | rfl := fin4 b
    · exact absurd rfl hne
    · refine ev_iload_0 (ev_dt dt_Term_paretoOf_0 0 rfl) ?_
      refine ev_ic3 (ev_dt dt_Term_paretoOf_0 1 rfl) ?_
      refine ev_icmp_neT (tgt := 7) (ev_dt dt_Term_paretoOf_0 2 rfl) (by decide) (by decide +kernel) ?_
      refine ev_iload_1 (ev_dt dt_Term_paretoOf_0 5 rfl) ?_
      refine ev_ic3 (ev_dt dt_Term_paretoOf_0 6 rfl) ?_
      refine ev_icmp_neT (tgt := 16) (ev_dt dt_Term_paretoOf_0 7 rfl) (by decide) (by decide +kernel) ?_
      refine ev_ic0 (ev_dt dt_Term_paretoOf_0 10 rfl) ?_
      exact ev_ireturn (ev_dt dt_Term_paretoOf_0 11 rfl) rfl rfl kk
    · refine ev_iload_0 (ev_dt dt_Term_paretoOf_0 0 rfl) ?_
      refine ev_ic3 (ev_dt dt_Term_paretoOf_0 1 rfl) ?_
      refine ev_icmp_neT (tgt := 7) (ev_dt dt_Term_paretoOf_0 2 rfl) (by decide) (by decide +kernel) ?_
      refine ev_iload_1 (ev_dt dt_Term_paretoOf_0 5 rfl) ?_
      refine ev_ic3 (ev_dt dt_Term_paretoOf_0 6 rfl) ?_
      refine ev_icmp_neT (tgt := 16) (ev_dt dt_Term_paretoOf_0 7 rfl) (by decide) (by decide +kernel) ?_
      refine ev_ic0 (ev_dt dt_Term_paretoOf_0 10 rfl) ?_
      exact ev_ireturn (ev_dt dt_Term_paretoOf_0 11 rfl) rfl rfl kk
    · refine ev_iload_0 (ev_dt dt_Term_paretoOf_0 0 rfl) ?_
      refine ev_ic3 (ev_dt dt_Term_paretoOf_0 1 rfl) ?_
      refine ev_icmp_neT (tgt := 7) (ev_dt dt_Term_paretoOf_0 2 rfl) (by decide) (by decide +kernel) ?_
      refine ev_iload_1 (ev_dt dt_Term_paretoOf_0 5 rfl) ?_
      refine ev_ic3 (ev_dt dt_Term_paretoOf_0 6 rfl) ?_
      refine ev_icmp_neF (tgt := 16) (ev_dt dt_Term_paretoOf_0 7 rfl) (by decide) (by decide +kernel) ?_
      refine ev_iload_0 (ev_dt dt_Term_paretoOf_0 8 rfl) ?_
      refine ev_goto (tgt := 17) (ev_dt dt_Term_paretoOf_0 9 rfl) (by decide) ?_
      exact ev_ireturn (ev_dt dt_Term_paretoOf_0 11 rfl) rfl rfl kk
  · obtain rfl | rfl | rfl | rfl := fin4 b
    · refine ev_iload_0 (ev_dt dt_Term_paretoOf_0 0 rfl) ?_
      refine ev_ic3 (ev_dt dt_Term_paretoOf_0 1 rfl) ?_
      refine ev_icmp_neT (tgt := 7) (ev_dt dt_Term_paretoOf_0 2 rfl) (by decide) (by decide +kernel) ?_
      refine ev_iload_1 (ev_dt dt_Term_paretoOf_0 5 rfl) ?_
      refine ev_ic3 (ev_dt dt_Term_paretoOf_0 6 rfl) ?_
      refine ev_icmp_neT (tgt := 16) (ev_dt dt_Term_paretoOf_0 7 rfl) (by decide) (by decide +kernel) ?_
      refine ev_ic0 (ev_dt dt_Term_paretoOf_0 10 rfl) ?_
      exact ev_ireturn (ev_dt dt_Term_paretoOf_0 11 rfl) rfl rfl kk
    · exact absurd rfl hne
    · refine ev_iload_0 (ev_dt dt_Term_paretoOf_0 0 rfl) ?_
      refine ev_ic3 (ev_dt dt_Term_paretoOf_0 1 rfl) ?_
      refine ev_icmp_neT (tgt := 7) (ev_dt dt_Term_paretoOf_0 2 rfl) (by decide) (by decide +kernel) ?_
      refine ev_iload_1 (ev_dt dt_Term_paretoOf_0 5 rfl) ?_
      refine ev_ic3 (ev_dt dt_Term_paretoOf_0 6 rfl) ?_
      refine ev_icmp_neT (tgt := 16) (ev_dt dt_Term_paretoOf_0 7 rfl) (by decide) (by decide +kernel) ?_
      refine ev_ic0 (ev_dt dt_Term_paretoOf_0 10 rfl) ?_
      exact ev_ireturn (ev_dt dt_Term_paretoOf_0 11 rfl) rfl rfl kk
    · refine ev_iload_0 (ev_dt dt_Term_paretoOf_0 0 rfl) ?_
      refine ev_ic3 (ev_dt dt_Term_paretoOf_0 1 rfl) ?_
      refine ev_icmp_neT (tgt := 7) (ev_dt dt_Term_paretoOf_0 2 rfl) (by decide) (by decide +kernel) ?_
      refine ev_iload_1 (ev_dt dt_Term_paretoOf_0 5 rfl) ?_
      refine ev_ic3 (ev_dt dt_Term_paretoOf_0 6 rfl) ?_
      refine ev_icmp_neF (tgt := 16) (ev_dt dt_Term_paretoOf_0 7 rfl) (by decide) (by decide +kernel) ?_
      refine ev_iload_0 (ev_dt dt_Term_paretoOf_0 8 rfl) ?_
      refine ev_goto (tgt := 17) (ev_dt dt_Term_paretoOf_0 9 rfl) (by decide) ?_
      exact ev_ireturn (ev_dt dt_Term_paretoOf_0 11 rfl) rfl rfl kk
  · obtain rfl | rfl | rfl | rfl := fin4 b
    · refine ev_iload_0 (ev_dt dt_Term_paretoOf_0 0 rfl) ?_
      refine ev_ic3 (ev_dt dt_Term_paretoOf_0 1 rfl) ?_
      refine ev_icmp_neT (tgt := 7) (ev_dt dt_Term_paretoOf_0 2 rfl) (by decide) (by decide +kernel) ?_
      refine ev_iload_1 (ev_dt dt_Term_paretoOf_0 5 rfl) ?_
      refine ev_ic3 (ev_dt dt_Term_paretoOf_0 6 rfl) ?_
      refine ev_icmp_neT (tgt := 16) (ev_dt dt_Term_paretoOf_0 7 rfl) (by decide) (by decide +kernel) ?_
      refine ev_ic0 (ev_dt dt_Term_paretoOf_0 10 rfl) ?_
      exact ev_ireturn (ev_dt dt_Term_paretoOf_0 11 rfl) rfl rfl kk
    · refine ev_iload_0 (ev_dt dt_Term_paretoOf_0 0 rfl) ?_
      refine ev_ic3 (ev_dt dt_Term_paretoOf_0 1 rfl) ?_
      refine ev_icmp_neT (tgt := 7) (ev_dt dt_Term_paretoOf_0 2 rfl) (by decide) (by decide +kernel) ?_
      refine ev_iload_1 (ev_dt dt_Term_paretoOf_0 5 rfl) ?_
      refine ev_ic3 (ev_dt dt_Term_paretoOf_0 6 rfl) ?_
      refine ev_icmp_neT (tgt := 16) (ev_dt dt_Term_paretoOf_0 7 rfl) (by decide) (by decide +kernel) ?_
      refine ev_ic0 (ev_dt dt_Term_paretoOf_0 10 rfl) ?_
      exact ev_ireturn (ev_dt dt_Term_paretoOf_0 11 rfl) rfl rfl kk
    · exact absurd rfl hne
    · refine ev_iload_0 (ev_dt dt_Term_paretoOf_0 0 rfl) ?_
      refine ev_ic3 (ev_dt dt_Term_paretoOf_0 1 rfl) ?_
      refine ev_icmp_neT (tgt := 7) (ev_dt dt_Term_paretoOf_0 2 rfl) (by decide) (by decide +kernel) ?_
      refine ev_iload_1 (ev_dt dt_Term_paretoOf_0 5 rfl) ?_
      refine ev_ic3 (ev_dt dt_Term_paretoOf_0 6 rfl) ?_
      refine ev_icmp_neF (tgt := 16) (ev_dt dt_Term_paretoOf_0 7 rfl) (by decide) (by decide +kernel) ?_
      refine ev_iload_0 (ev_dt dt_Term_paretoOf_0 8 rfl) ?_
      refine ev_goto (tgt := 17) (ev_dt dt_Term_paretoOf_0 9 rfl) (by decide) ?_
      exact ev_ireturn (ev_dt dt_Term_paretoOf_0 11 rfl) rfl rfl kk
  · obtain rfl | rfl | rfl | rfl := fin4 b
    · refine ev_iload_0 (ev_dt dt_Term_paretoOf_0 0 rfl) ?_
      refine ev_ic3 (ev_dt dt_Term_paretoOf_0 1 rfl) ?_
      refine ev_icmp_neF (tgt := 7) (ev_dt dt_Term_paretoOf_0 2 rfl) (by decide) (by decide +kernel) ?_
      refine ev_iload_1 (ev_dt dt_Term_paretoOf_0 3 rfl) ?_
      exact ev_ireturn (ev_dt dt_Term_paretoOf_0 4 rfl) rfl rfl kk
    · refine ev_iload_0 (ev_dt dt_Term_paretoOf_0 0 rfl) ?_
      refine ev_ic3 (ev_dt dt_Term_paretoOf_0 1 rfl) ?_
      refine ev_icmp_neF (tgt := 7) (ev_dt dt_Term_paretoOf_0 2 rfl) (by decide) (by decide +kernel) ?_
      refine ev_iload_1 (ev_dt dt_Term_paretoOf_0 3 rfl) ?_
      exact ev_ireturn (ev_dt dt_Term_paretoOf_0 4 rfl) rfl rfl kk
    · refine ev_iload_0 (ev_dt dt_Term_paretoOf_0 0 rfl) ?_
      refine ev_ic3 (ev_dt dt_Term_paretoOf_0 1 rfl) ?_
      refine ev_icmp_neF (tgt := 7) (ev_dt dt_Term_paretoOf_0 2 rfl) (by decide) (by decide +kernel) ?_
      refine ev_iload_1 (ev_dt dt_Term_paretoOf_0 3 rfl) ?_
      exact ev_ireturn (ev_dt dt_Term_paretoOf_0 4 rfl) rfl rfl kk
    · exact absurd rfl hne
def sx : MethodName := ⟨"PreferTable$Node", "says", "([I[I)I"⟩
/-- a call of says at a node -/
theorem ev_saysG {M : ev_M} {pc pc' idx i u v : Nat} {ls : List (Option Value)} {rest : List Value} {U V : Nat → Int32} {N : nod} {ed : Nat → Nat → Int32} {zs : Nat → Nat} {cs : Nat → Int32} {ad : Nat → Nat} (hd : ev_d M pc (.invokevirtual idx) 3 pc')
    (w6 : ev_wU M.1.cls idx 6 sx m_Order_says) (w7 : ev_wU M.1.cls idx 7 sx m_Order_says) (w8 : ev_wU M.1.cls idx 8 sx m_Order_says) (w9 : ev_wU M.1.cls idx 9 sx m_Term_says) (hN : NdAt E N ed zs cs ad i h) (hroom : Nat.ble ((rest.map fun v => v.category).sum + 5 + 11) 64 = true)
    (ih : ∀ Q', Q' (.returned (some (.int (nI (say N U V i).val)))) h sz k n → Ev E (ndM N i) d 0 [some (.ref (ad i)), some (.ref u), some (.ref v), none, none] [] h sz k n Q')
    (kk : Ev E M (d + 1) pc' ls (.int (nI (say N U V i).val) :: rest) h sz k n Q) : Ev E M (d + 1) pc ls (.ref v :: .ref u :: .ref (ad i) :: rest) h sz k n Q := by
  rcases hN with ⟨hk, hc, ho⟩ | ⟨hk, hc, ho, -⟩ | ⟨hk, hc, ho, -⟩ | ⟨hk, -, -, -, ho⟩
  · rw [show ndM N i = m_Order_says from if_pos (by omega)] at ih
    exact ev_callU hd w6 ho [.ref u, .ref v] rfl np_Order_says hroom (ev_lk_of (j := 2) rfl rfl) (ih _ (ev_r1 kk))
  · rw [show ndM N i = m_Order_says from if_pos (by omega)] at ih
    exact ev_callU hd w7 ho [.ref u, .ref v] rfl np_Order_says hroom (ev_lk_of (j := 2) rfl rfl) (ih _ (ev_r1 kk))
  · rw [show ndM N i = m_Order_says from if_pos (by omega)] at ih
    exact ev_callU hd w8 ho [.ref u, .ref v] rfl np_Order_says hroom (ev_lk_of (j := 2) rfl rfl) (ih _ (ev_r1 kk))
  · rw [show ndM N i = m_Term_says from if_neg (by omega)] at ih
    exact ev_callU hd w9 ho [.ref u, .ref v] rfl np_Term_says hroom (ev_lk_of (j := 2) rfl rfl) (ih _ (ev_r1 kk))
theorem nv {a b : Fin 4} : nI a.val = nI b.val ↔ a = b := by
  rw [nI_eq (by omega) (by omega)]
  exact ⟨fun e => Fin.ext e, fun e => by rw [e]⟩
theorem t_Term_says {N : nod} {ed : Nat → Nat → Int32} {zs : Nat → Nat} {cs : Nat → Int32} {ad : Nat → Nat} {i : Nat} {u v : Nat} {U V : Nat → Int32} (h6 : 6 ≤ nK N i) (h9 : nK N i ≤ 9) (hl : nL N i < i) (hq : nQ N i < i) (ho : h (ad i) = some (oB 9 [.ref (ad (nL N i)), .ref (ad (nQ N i)), .int (nI (nK N i)), .int (nI i), .int (nI (zs i)), .int (cs i)])) (hP : NdAt E N ed zs cs ad (nL N i) h) (hQ : NdAt E N ed zs cs ad (nQ N i) h) (ihp : ∀ Q', Q' (.returned (some (.int (nI (say N U V (nL N i)).val)))) h sz k n → Ev E (ndM N (nL N i)) d 0 [some (.ref (ad (nL N i))), some (.ref u), some (.ref v), none, none] [] h sz k n Q') (ihq : ∀ Q', Q' (.returned (some (.int (nI (say N U V (nQ N i)).val)))) h sz k n → Ev E (ndM N (nQ N i)) d 0 [some (.ref (ad (nQ N i))), some (.ref u), some (.ref v), none, none] [] h sz k n Q') (kk : Q (.returned (some (.int (nI (say N U V i).val)))) h sz k n) : Ev E m_Term_says (d + 1) 0 [some (.ref (ad i)), some (.ref u), some (.ref v), none, none] [] h sz k n Q := by
  have hs : say N U V i = jn (nK N i) (say N U V (nL N i)) (say N U V (nQ N i)) := say_t (by omega) ⟨hl, hq⟩
  obtain hk | hk | hk | hk : nK N i = 6 ∨ nK N i = 7 ∨ nK N i = 8 ∨ nK N i = 9 := by omega
  · refine ev_aload_0 (ev_dt dt_Term_says_0 0 rfl) ?_
    refine ev_get (ev_dt dt_Term_says_0 1 rfl) g_Term_19_9 ho rfl ?_
    refine ev_aload_1 (ev_dt dt_Term_says_0 2 rfl) ?_
    refine ev_aload_2 (ev_dt dt_Term_says_0 3 rfl) ?_
    refine ev_saysG (ev_dt dt_Term_says_0 4 rfl) u_Term_29_6 u_Term_29_7 u_Term_29_8 u_Term_29_9 hP rfl ihp ?_
    refine ev_istore_3 (ev_dt dt_Term_says_0 5 rfl) (by decide) rfl ?_
    refine ev_aload_0 (ev_dt dt_Term_says_0 6 rfl) ?_
    refine ev_get (ev_dt dt_Term_says_0 7 rfl) g_Term_33_9 ho rfl ?_
    refine ev_bipush (ev_dt dt_Term_says_0 8 rfl) bi_9 ?_
    refine ev_icmp_neT (tgt := 24) (ev_dt dt_Term_says_0 9 rfl) (by decide) (by rw [hk]; decide +kernel) ?_
    refine ev_aload_0 (ev_dt dt_Term_says_0 13 rfl) ?_
    refine ev_get (ev_dt dt_Term_says_0 14 rfl) g_Term_33_9 ho rfl ?_
    refine ev_bipush (ev_dt dt_Term_says_0 15 rfl) bi_7 ?_
    refine ev_icmp_neT (tgt := 52) (ev_dt dt_Term_says_0 16 rfl) (by decide) (by rw [hk]; decide +kernel) ?_
    refine ev_aload_0 (ev_dt dt_Term_says_0 28 rfl) ?_
    refine ev_get (ev_dt dt_Term_says_0 29 rfl) g_Term_23_9 ho rfl ?_
    refine ev_aload_1 (ev_dt dt_Term_says_0 30 rfl) ?_
    refine ev_aload_2 (ev_dt dt_Term_says_0 31 rfl) ?_
    refine ev_saysG (ev_dt dt_Term_says_0 32 rfl) u_Term_29_6 u_Term_29_7 u_Term_29_8 u_Term_29_9 hQ rfl ihq ?_
    refine ev_istore_4 (ev_dt dt_Term_says_0 33 rfl) (by decide) rfl ?_
    refine ev_iload_3 (ev_dt dt_Term_says_0 34 rfl) ?_
    refine ev_iload_4 (ev_dt dt_Term_says_0 35 rfl) ?_
    refine ev_icmp_ne (tgt := 71) (ev_dt dt_Term_says_0 36 rfl) (by decide) (fun h1 => ?_) (fun h1 => ?_)
    · have h3 : say N U V (nL N i) ≠ say N U V (nQ N i) := fun e => h1 (by rw [e])
      refine ev_aload_0 (ev_dt dt_Term_says_0 39 rfl) ?_
      refine ev_get (ev_dt dt_Term_says_0 40 rfl) g_Term_33_9 ho rfl ?_
      refine ev_bipush (ev_dt dt_Term_says_0 41 rfl) bi_6 ?_
      refine ev_icmp_neF (tgt := 89) (ev_dt dt_Term_says_0 42 rfl) (by decide) (by rw [hk]) ?_
      refine ev_iload_3 (ev_dt dt_Term_says_0 43 rfl) ?_
      refine ev_iload_4 (ev_dt dt_Term_says_0 44 rfl) ?_
      refine ev_callS (ev_dt dt_Term_says_0 45 rfl) s_Term_40 [.int (nI (say N U V (nL N i)).val), .int (nI (say N U V (nQ N i)).val)] rfl np_Term_paretoOf rfl (ev_lk_of (j := 0) rfl rfl) (t_Term_paretoOf (a := say N U V (nL N i)) (b := say N U V (nQ N i)) h3 (ev_r1 ?_))
      refine ev_goto (tgt := 90) (ev_dt dt_Term_says_0 46 rfl) (by decide) ?_
      rw [hs, hk] at kk
      exact ev_ireturn (ev_dt dt_Term_says_0 48 rfl) rfl rfl kk
    · have h3 : say N U V (nL N i) = say N U V (nQ N i) := nv.mp h1
      refine ev_iload_3 (ev_dt dt_Term_says_0 37 rfl) ?_
      rw [hs, hk, show jn 6 (say N U V (nL N i)) (say N U V (nQ N i)) = say N U V (nL N i) by simp [jn, h3]] at kk
      exact ev_ireturn (ev_dt dt_Term_says_0 38 rfl) rfl rfl kk
  · refine ev_aload_0 (ev_dt dt_Term_says_0 0 rfl) ?_
    refine ev_get (ev_dt dt_Term_says_0 1 rfl) g_Term_19_9 ho rfl ?_
    refine ev_aload_1 (ev_dt dt_Term_says_0 2 rfl) ?_
    refine ev_aload_2 (ev_dt dt_Term_says_0 3 rfl) ?_
    refine ev_saysG (ev_dt dt_Term_says_0 4 rfl) u_Term_29_6 u_Term_29_7 u_Term_29_8 u_Term_29_9 hP rfl ihp ?_
    refine ev_istore_3 (ev_dt dt_Term_says_0 5 rfl) (by decide) rfl ?_
    refine ev_aload_0 (ev_dt dt_Term_says_0 6 rfl) ?_
    refine ev_get (ev_dt dt_Term_says_0 7 rfl) g_Term_33_9 ho rfl ?_
    refine ev_bipush (ev_dt dt_Term_says_0 8 rfl) bi_9 ?_
    refine ev_icmp_neT (tgt := 24) (ev_dt dt_Term_says_0 9 rfl) (by decide) (by rw [hk]; decide +kernel) ?_
    refine ev_aload_0 (ev_dt dt_Term_says_0 13 rfl) ?_
    refine ev_get (ev_dt dt_Term_says_0 14 rfl) g_Term_33_9 ho rfl ?_
    refine ev_bipush (ev_dt dt_Term_says_0 15 rfl) bi_7 ?_
    refine ev_icmp_neF (tgt := 52) (ev_dt dt_Term_says_0 16 rfl) (by decide) (by rw [hk]) ?_
    refine ev_iload_3 (ev_dt dt_Term_says_0 17 rfl) ?_
    refine ev_ic3 (ev_dt dt_Term_says_0 18 rfl) ?_
    refine ev_icmp_ne (tgt := 50) (ev_dt dt_Term_says_0 19 rfl) (by decide) (fun h1 => ?_) (fun h1 => ?_)
    · refine ev_iload_3 (ev_dt dt_Term_says_0 26 rfl) ?_
      have h3 : say N U V (nL N i) ≠ 3 := fun e => h1 (by rw [e]; rfl)
      rw [hs, hk, show jn 7 (say N U V (nL N i)) (say N U V (nQ N i)) = say N U V (nL N i) by simp [jn, h3]] at kk
      exact ev_ireturn (ev_dt dt_Term_says_0 27 rfl) rfl rfl kk
    · have h3 : say N U V (nL N i) = 3 := nv.mp h1
      refine ev_aload_0 (ev_dt dt_Term_says_0 20 rfl) ?_
      refine ev_get (ev_dt dt_Term_says_0 21 rfl) g_Term_23_9 ho rfl ?_
      refine ev_aload_1 (ev_dt dt_Term_says_0 22 rfl) ?_
      refine ev_aload_2 (ev_dt dt_Term_says_0 23 rfl) ?_
      refine ev_saysG (ev_dt dt_Term_says_0 24 rfl) u_Term_29_6 u_Term_29_7 u_Term_29_8 u_Term_29_9 hQ rfl ihq ?_
      refine ev_goto (tgt := 51) (ev_dt dt_Term_says_0 25 rfl) (by decide) ?_
      rw [hs, hk, show jn 7 (say N U V (nL N i)) (say N U V (nQ N i)) = say N U V (nQ N i) by simp [jn, h3]] at kk
      exact ev_ireturn (ev_dt dt_Term_says_0 27 rfl) rfl rfl kk
  · refine ev_aload_0 (ev_dt dt_Term_says_0 0 rfl) ?_
    refine ev_get (ev_dt dt_Term_says_0 1 rfl) g_Term_19_9 ho rfl ?_
    refine ev_aload_1 (ev_dt dt_Term_says_0 2 rfl) ?_
    refine ev_aload_2 (ev_dt dt_Term_says_0 3 rfl) ?_
    refine ev_saysG (ev_dt dt_Term_says_0 4 rfl) u_Term_29_6 u_Term_29_7 u_Term_29_8 u_Term_29_9 hP rfl ihp ?_
    refine ev_istore_3 (ev_dt dt_Term_says_0 5 rfl) (by decide) rfl ?_
    refine ev_aload_0 (ev_dt dt_Term_says_0 6 rfl) ?_
    refine ev_get (ev_dt dt_Term_says_0 7 rfl) g_Term_33_9 ho rfl ?_
    refine ev_bipush (ev_dt dt_Term_says_0 8 rfl) bi_9 ?_
    refine ev_icmp_neT (tgt := 24) (ev_dt dt_Term_says_0 9 rfl) (by decide) (by rw [hk]; decide +kernel) ?_
    refine ev_aload_0 (ev_dt dt_Term_says_0 13 rfl) ?_
    refine ev_get (ev_dt dt_Term_says_0 14 rfl) g_Term_33_9 ho rfl ?_
    refine ev_bipush (ev_dt dt_Term_says_0 15 rfl) bi_7 ?_
    refine ev_icmp_neT (tgt := 52) (ev_dt dt_Term_says_0 16 rfl) (by decide) (by rw [hk]; decide +kernel) ?_
    refine ev_aload_0 (ev_dt dt_Term_says_0 28 rfl) ?_
    refine ev_get (ev_dt dt_Term_says_0 29 rfl) g_Term_23_9 ho rfl ?_
    refine ev_aload_1 (ev_dt dt_Term_says_0 30 rfl) ?_
    refine ev_aload_2 (ev_dt dt_Term_says_0 31 rfl) ?_
    refine ev_saysG (ev_dt dt_Term_says_0 32 rfl) u_Term_29_6 u_Term_29_7 u_Term_29_8 u_Term_29_9 hQ rfl ihq ?_
    refine ev_istore_4 (ev_dt dt_Term_says_0 33 rfl) (by decide) rfl ?_
    refine ev_iload_3 (ev_dt dt_Term_says_0 34 rfl) ?_
    refine ev_iload_4 (ev_dt dt_Term_says_0 35 rfl) ?_
    refine ev_icmp_ne (tgt := 71) (ev_dt dt_Term_says_0 36 rfl) (by decide) (fun h1 => ?_) (fun h1 => ?_)
    · have h3 : say N U V (nL N i) ≠ say N U V (nQ N i) := fun e => h1 (by rw [e])
      refine ev_aload_0 (ev_dt dt_Term_says_0 39 rfl) ?_
      refine ev_get (ev_dt dt_Term_says_0 40 rfl) g_Term_33_9 ho rfl ?_
      refine ev_bipush (ev_dt dt_Term_says_0 41 rfl) bi_6 ?_
      refine ev_icmp_neT (tgt := 89) (ev_dt dt_Term_says_0 42 rfl) (by decide) (by rw [hk]; decide +kernel) ?_
      refine ev_ic0 (ev_dt dt_Term_says_0 47 rfl) ?_
      rw [hs, hk, show jn 8 (say N U V (nL N i)) (say N U V (nQ N i)) = 0 by simp [jn, h3]] at kk
      exact ev_ireturn (ev_dt dt_Term_says_0 48 rfl) rfl rfl kk
    · have h3 : say N U V (nL N i) = say N U V (nQ N i) := nv.mp h1
      refine ev_iload_3 (ev_dt dt_Term_says_0 37 rfl) ?_
      rw [hs, hk, show jn 8 (say N U V (nL N i)) (say N U V (nQ N i)) = say N U V (nL N i) by simp [jn, h3]] at kk
      exact ev_ireturn (ev_dt dt_Term_says_0 38 rfl) rfl rfl kk
  · refine ev_aload_0 (ev_dt dt_Term_says_0 0 rfl) ?_
    refine ev_get (ev_dt dt_Term_says_0 1 rfl) g_Term_19_9 ho rfl ?_
    refine ev_aload_1 (ev_dt dt_Term_says_0 2 rfl) ?_
    refine ev_aload_2 (ev_dt dt_Term_says_0 3 rfl) ?_
    refine ev_saysG (ev_dt dt_Term_says_0 4 rfl) u_Term_29_6 u_Term_29_7 u_Term_29_8 u_Term_29_9 hP rfl ihp ?_
    refine ev_istore_3 (ev_dt dt_Term_says_0 5 rfl) (by decide) rfl ?_
    refine ev_aload_0 (ev_dt dt_Term_says_0 6 rfl) ?_
    refine ev_get (ev_dt dt_Term_says_0 7 rfl) g_Term_33_9 ho rfl ?_
    refine ev_bipush (ev_dt dt_Term_says_0 8 rfl) bi_9 ?_
    refine ev_icmp_neF (tgt := 24) (ev_dt dt_Term_says_0 9 rfl) (by decide) (by rw [hk]) ?_
    refine ev_iload_3 (ev_dt dt_Term_says_0 10 rfl) ?_
    refine ev_callS (ev_dt dt_Term_says_0 11 rfl) s_Term_36 [.int (nI (say N U V (nL N i)).val)] rfl np_Term_changedOver rfl (ev_lk_of (j := 0) rfl rfl) (t_Term_changedOver (a := say N U V (nL N i)) (ev_r1 ?_))
    rw [hs, hk, show jn 9 (say N U V (nL N i)) (say N U V (nQ N i)) = fl (say N U V (nL N i)) from rfl] at kk
    exact ev_ireturn (ev_dt dt_Term_says_0 12 rfl) rfl rfl kk
/-- what a node says -/
theorem t_says {N : nod} {ed : Nat → Nat → Int32} {zs : Nat → Nat} {cs : Nat → Int32} {ad : Nat → Nat} {c u v : Nat} {U V : Nat → Int32} (hN : ∀ i, i < c → NdAt E N ed zs cs ad i h) (hu : h u = some (iA E 4 U)) (hv : h v = some (iA E 4 V)) :
    ∀ i, i < c → ∀ d, i + 5 ≤ d → ∀ Q : ev_Q, Q (.returned (some (.int (nI (say N U V i).val)))) h sz k n → Ev E (ndM N i) d 0 [some (.ref (ad i)), some (.ref u), some (.ref v), none, none] [] h sz k n Q := by
  intro i
  induction i using Nat.strongRecOn with
  | _ i ih =>
    intro hi d hd Q kk
    rcases hN i hi with ⟨hk, hc, ho⟩ | ⟨hk, hc, ho, hy⟩ | ⟨hk, hc, ho, he, hr⟩ | ⟨h6, h9, hl, hq, ho⟩
    · rw [show ndM N i = m_Order_says from if_pos (by omega)]
      obtain ⟨d, rfl⟩ : ∃ e, d = e + 3 := ⟨d - 3, by omega⟩
      exact t_Order_says_6 hk hc ho hu hv kk
    · rw [show ndM N i = m_Order_says from if_pos (by omega)]
      obtain ⟨d, rfl⟩ : ∃ e, d = e + 3 := ⟨d - 3, by omega⟩
      exact t_Order_says_7 hk hc ho hy hu hv kk
    · rw [show ndM N i = m_Order_says from if_pos (by omega)]
      obtain ⟨d, rfl⟩ : ∃ e, d = e + 3 := ⟨d - 3, by omega⟩
      exact t_Order_says_8 hk hc ho hr hu hv kk
    · rw [show ndM N i = m_Term_says from if_neg (by omega)]
      obtain ⟨d, rfl⟩ : ∃ e, d = e + 1 := ⟨d - 1, by omega⟩
      exact t_Term_says h6 h9 hl hq ho (hN _ (by omega)) (hN _ (by omega)) (ih (nL N i) hl (by omega) d (by omega)) (ih (nQ N i) hq (by omega) d (by omega)) kk
end C3
