/-! The class's methods: rows, conditions, answers, forms, comparisons (written by gen_c14.py over walk.py). -/
theorem nI_nm {j : Nat} (h : j < 65536) : nI j ≠ (-1 : Int32) := fun e => by
  have := nI_pos (n := j) (by omega)
  rw [e] at this
  exact this (by decide +kernel)
theorem rf_s {x : Option Nat} {a : Nat} (h : x = some a) : va_rf x = .ref a := by rw [h]; rfl
theorem RwAt.setV {E : ev_E} {r c m j : Nat} {nu f : Nat → Int32} {V : Nat → Nat → Int32} {h : ev_h} (hR : RwAt E r c m nu V h) (hj : j < 24) : RwAt E r c m nu (fun i => if i = j then f else V i) (ev_up h (r + 3 + j) (iA E 4 f)) ∧ fI r 27 h (ev_up h (r + 3 + j) (iA E 4 f)) := by
  refine ⟨⟨(ev_up_n (by omega)).trans hR.1, (ev_up_n (by omega)).trans hR.2.1, (ev_up_n (by omega)).trans hR.2.2.1, fun i hi => ?_⟩, fI.up (by omega) (by omega)⟩
  by_cases e : i = j
  · subst e
    rw [ev_up_s]; simp
  · rw [ev_up_n (by omega), hR.2.2.2 i hi]; simp [e]
section C14
variable {E : ev_E} {d : Nat} {h : ev_h} {sz k n : Nat} {Q : ev_Q}
variable {X : Nat} {nc al fl c m cc ac : Nat} {nu on op th af ff : Nat → Int32} {V : Nat → Nat → Int32} {qs : Nat → qst} {N : nod} {ed : Nat → Nat → Int32} {zs : Nat → Nat} {cs : Nat → Int32} {ad : Nat → Nat}
theorem t_PT_isNode {x : Int32} (hnc : nc ≤ 24) (ho : h X = some (PtO X nc al fl)) (kt : (∃ j, j < nc ∧ x = nI j) → Q (.returned (some (.int (nI 1)))) h sz k n) (kf : (∀ j, j < nc → x ≠ nI j) → Q (.returned (some (.int (nI 0)))) h sz k n) : Ev E m_PT_isNode d 0 [some (.ref X), some (.int x)] [] h sz k n Q := by
  refine ev_iload_1 (ev_dt dt_PT_isNode_0 0 rfl) ?_
  refine ev_if_lt (tgt := 16) (ev_dt dt_PT_isNode_0 1 rfl) (by decide) (fun h1 => ?_) (fun h1 => ?_)
  · refine ev_ic0 (ev_dt dt_PT_isNode_0 8 rfl) ?_
    exact ev_ireturn (ev_dt dt_PT_isNode_0 9 rfl) rfl bz0 (kf (nI_nb (by omega) (Or.inl h1)))
  · refine ev_iload_1 (ev_dt dt_PT_isNode_0 2 rfl) ?_
    refine ev_aload_0 (ev_dt dt_PT_isNode_0 3 rfl) ?_
    refine ev_get (ev_dt dt_PT_isNode_0 4 rfl) g_PT_22_0 ho rfl ?_
    refine ev_icmp_ge (tgt := 16) (ev_dt dt_PT_isNode_0 5 rfl) (by decide) (fun h2 => ?_) (fun h2 => ?_)
    · refine ev_ic0 (ev_dt dt_PT_isNode_0 8 rfl) ?_
      exact ev_ireturn (ev_dt dt_PT_isNode_0 9 rfl) rfl bz0 (kf (nI_nb (by omega) (Or.inr h2)))
    · refine ev_ic1 (ev_dt dt_PT_isNode_0 6 rfl) ?_
      refine ev_goto (tgt := 17) (ev_dt dt_PT_isNode_0 7 rfl) (by decide) ?_
      exact ev_ireturn (ev_dt dt_PT_isNode_0 9 rfl) rfl bz1 (kt (nI_bd (by omega) h1 h2))
theorem t_PT_row {x0 x1 x2 x3 : Int32} (hc : c ≤ 24) (hm : m ≤ 120) (hs : nsp X N ad nc sz) (hP : PtAt E X nc al fl c m nu V cc on op th ac af ff qs N ed zs cs ad h) (kx : c = 24 ∨ m = 120 → ∀ h', PtAt E X nc al fl c m nu V cc on op th ac af ff qs N ed zs cs ad h' → nsp X N ad nc (sz + 1) → cF X h h' → h' sz = some (oB 11 []) → Q (.threw sz) h' (sz + 1) k n) (kk : c ≠ 24 → m ≠ 120 → ∀ h', PtAt E X nc (al + 1) fl (c + 1) (m + 1) (upd nu c (nI m)) (fun i => if i = c then upd (upd (upd (upd (V c) 0 x0) 1 x1) 2 x2) 3 x3 else V i) cc on op th ac af ff qs N ed zs cs ad h' → cF X h h' → Q (.returned (some (.int (nI m)))) h' sz k n) : Ev E m_PT_row (d + 60) 0 [some (.ref X), some (.int x0), some (.int x1), some (.int x2), some (.int x3)] [] h sz (k + 1) (n + 6) Q := by
  refine ev_aload_0 (ev_dt dt_PT_row_0 0 rfl) ?_
  refine ev_get (ev_dt dt_PT_row_0 1 rfl) g_PT_12_0 hP.1 rfl ?_
  refine ev_callV (ev_dt dt_PT_row_0 2 rfl) v_PT_67_1 hP.2.1.1 [] rfl np_Rows_isFull rfl (ev_lk_of (j := 0) rfl rfl) (t_Rows_isFull hc hm hP.2.1 (fun hx => ev_r1 ?_) (fun h1 h2 => ev_r1 ?_))
  · refine ev_if_eqF (tgt := 20) (ev_dt dt_PT_row_0 3 rfl) (by decide) z10 ?_
    exact ev_throw (ev_dt dt_PT_row_0 4 rfl) (ev_dt dt_PT_row_0 5 rfl) (ev_dt dt_PT_row_0 6 rfl) (ev_dt dt_PT_row_0 7 rfl) (ev_dt dt_PT_row_0 8 rfl) rfl th_PT_73_75 rfl (kx hx _ (hP.ex hs) hs.up (cF.up (Or.inr hs.1)) ev_up_s)
  · refine ev_if_eqT (tgt := 20) (ev_dt dt_PT_row_0 3 rfl) (by decide) z00 ?_
    refine ev_wide (k' := k) (n' := n) (Nat.le_refl _) (Nat.le_add_right _ _) (Nat.le_add_right _ _) ?_
    refine ev_aload_0 (ev_dt dt_PT_row_0 9 rfl) ?_
    refine ev_dup (ev_dt dt_PT_row_0 10 rfl) rfl ?_
    refine ev_get (ev_dt dt_PT_row_0 11 rfl) g_PT_56_0 hP.1 rfl ?_
    refine ev_ic1 (ev_dt dt_PT_row_0 12 rfl) ?_
    refine ev_addn (ev_dt dt_PT_row_0 13 rfl) ?_
    refine ev_put [.ref (X + 1), .ref (X + 28), .int (nI nc), .ref (X + 29), .ref (X + 33), .ref (X + 36), .ref (X + 38), .ref (X + 40), .int (nI (al + 1)), .ref (X + 41), .int (nI fl)] (ev_dt dt_PT_row_0 14 rfl) p_PT_56_0 hP.1 rfl rfl rfl rfl ?_
    refine ev_aload_0 (ev_dt dt_PT_row_0 15 rfl) ?_
    refine ev_get (ev_dt dt_PT_row_0 16 rfl) g_PT_12_0 ev_up_s rfl ?_
    refine ev_iload_1 (ev_dt dt_PT_row_0 17 rfl) ?_
    refine ev_iload_2 (ev_dt dt_PT_row_0 18 rfl) ?_
    refine ev_iload_3 (ev_dt dt_PT_row_0 19 rfl) ?_
    refine ev_iload_4 (ev_dt dt_PT_row_0 20 rfl) ?_
    have hP1 : PtAt E X nc (al + 1) fl c m nu V cc on op th ac af ff qs N ed zs cs ad (ev_up h X (oB 0 [.ref (X + 1), .ref (X + 28), .int (nI nc), .ref (X + 29), .ref (X + 33), .ref (X + 36), .ref (X + 38), .ref (X + 40), .int (nI (al + 1)), .ref (X + 41), .int (nI fl)])) := hP.setO
    refine ev_callV (ev_dt dt_PT_row_0 21 rfl) v_PT_78_1 ((ev_up_n (by omega)).trans hP.2.1.1) [.int x0, .int x1, .int x2, .int x3] rfl np_Rows_add rfl (ev_lk_of (j := 1) rfl rfl) (t_Rows_add (by omega) hP1.2.1 (fun h1' hR hf => ev_r1 ?_))
    exact ev_ireturn (ev_dt dt_PT_row_0 22 rfl) rfl rfl (kk h1 h2 _ (hP1.setR hR hf) ((cF.up (Or.inl (by omega))).tr (cF.of hf (by omega))))
theorem t_PT_change {x y v : Int32} (hc : c ≤ 24) (hP : PtAt E X nc al fl c m nu V cc on op th ac af ff qs N ed zs cs ad h) (kf : (∀ i, i < c → nu i ≠ x) ∨ (∀ l, l < 4 → y ≠ nI l) → Q (.returned (some (.int (nI 0)))) h sz k n) (kt : ∀ j l, j < c → nu j = x → l < 4 → y = nI l → ∀ h', PtAt E X nc (al + 1) fl c m nu (fun i => if i = j then upd (V j) l v else V i) cc on op th ac af ff qs N ed zs cs ad h' → cF X h h' → Q (.returned (some (.int (nI 1)))) h' sz k n) : Ev E m_PT_change (d + 60) 0 [some (.ref X), some (.int x), some (.int y), some (.int v), none] [] h sz k n Q := by
  refine ev_aload_0 (ev_dt dt_PT_change_0 0 rfl) ?_
  refine ev_get (ev_dt dt_PT_change_0 1 rfl) g_PT_12_0 hP.1 rfl ?_
  refine ev_iload_1 (ev_dt dt_PT_change_0 2 rfl) ?_
  refine ev_callV (ev_dt dt_PT_change_0 3 rfl) v_PT_82_1 hP.2.1.1 [.int x] rfl np_Rows_placeOf rfl (ev_lk_of (j := 1) rfl rfl) (t_Rows_placeOf hc hP.2.1 (fun j hj_j hn_j => ev_r1 ?_) (fun hno => ev_r1 ?_))
  · refine ev_istore_4 (ev_dt dt_PT_change_0 4 rfl) (by decide) rfl ?_
    refine ev_iload_4 (ev_dt dt_PT_change_0 5 rfl) ?_
    refine ev_icm (ev_dt dt_PT_change_0 6 rfl) ?_
    refine ev_icmp_eqF (tgt := 23) (ev_dt dt_PT_change_0 7 rfl) (by decide) (nI_nm (by omega)) ?_
    refine ev_iload_2 (ev_dt dt_PT_change_0 8 rfl) ?_
    refine ev_callS (ev_dt dt_PT_change_0 9 rfl) s_PT_86 [.int y] rfl np_PT_isColumn rfl (ev_lk_of (j := 0) rfl rfl) (t_PT_isColumn (fun hcol => ev_r1 ?_) (fun hcol => ev_r1 ?_))
    · obtain ⟨l, hl, rfl⟩ := hcol
      refine ev_if_neT (tgt := 25) (ev_dt dt_PT_change_0 10 rfl) (by decide) z10 ?_
      refine ev_aload_0 (ev_dt dt_PT_change_0 13 rfl) ?_
      refine ev_get (ev_dt dt_PT_change_0 14 rfl) g_PT_12_0 hP.1 rfl ?_
      refine ev_get (ev_dt dt_PT_change_0 15 rfl) g_PT_90_1 hP.2.1.1 rfl ?_
      refine ev_iload_4 (ev_dt dt_PT_change_0 16 rfl) ?_
      refine ev_aald (t := 5) (ev_dt dt_PT_change_0 17 rfl) rfl rfl hP.2.1.2.2.1 (by omega) (by decide) (rw_v (by omega)) ?_
      refine ev_iload_2 (ev_dt dt_PT_change_0 18 rfl) ?_
      refine ev_iload_3 (ev_dt dt_PT_change_0 19 rfl) ?_
      refine ev_iast (ev_dt dt_PT_change_0 20 rfl) (hP.2.1.2.2.2 _ (by omega)) (by omega) (by decide) ?_
      refine ev_aload_0 (ev_dt dt_PT_change_0 21 rfl) ?_
      refine ev_dup (ev_dt dt_PT_change_0 22 rfl) rfl ?_
      refine ev_get (ev_dt dt_PT_change_0 23 rfl) g_PT_56_0 ((ev_up_n (by omega)).trans hP.1) rfl ?_
      refine ev_ic1 (ev_dt dt_PT_change_0 24 rfl) ?_
      refine ev_addn (ev_dt dt_PT_change_0 25 rfl) ?_
      refine ev_put [.ref (X + 1), .ref (X + 28), .int (nI nc), .ref (X + 29), .ref (X + 33), .ref (X + 36), .ref (X + 38), .ref (X + 40), .int (nI (al + 1)), .ref (X + 41), .int (nI fl)] (ev_dt dt_PT_change_0 26 rfl) p_PT_56_0 ((ev_up_n (by omega)).trans hP.1) rfl rfl rfl rfl ?_
      refine ev_ic1 (ev_dt dt_PT_change_0 27 rfl) ?_
      have hR := hP.2.1.setV (j := j) (f := upd (V j) l v) (by omega)
      have hP2 := (hP.setR hR.1 hR.2).setO (al' := al + 1) (fl' := fl)
      exact ev_ireturn (ev_dt dt_PT_change_0 28 rfl) rfl bz1 (kt j l hj_j hn_j hl rfl _ hP2 ((cF.of hR.2 (by omega)).tr (cF.up (Or.inl (by omega)))))
    · refine ev_if_neF (tgt := 25) (ev_dt dt_PT_change_0 10 rfl) (by decide) z00 ?_
      refine ev_ic0 (ev_dt dt_PT_change_0 11 rfl) ?_
      exact ev_ireturn (ev_dt dt_PT_change_0 12 rfl) rfl bz0 (kf (Or.inr hcol))
  · refine ev_istore_4 (ev_dt dt_PT_change_0 4 rfl) (by decide) rfl ?_
    refine ev_iload_4 (ev_dt dt_PT_change_0 5 rfl) ?_
    refine ev_icm (ev_dt dt_PT_change_0 6 rfl) ?_
    refine ev_icmp_eqT (tgt := 23) (ev_dt dt_PT_change_0 7 rfl) (by decide) rfl ?_
    refine ev_ic0 (ev_dt dt_PT_change_0 11 rfl) ?_
    exact ev_ireturn (ev_dt dt_PT_change_0 12 rfl) rfl bz0 (kf (Or.inl hno))
theorem t_PT_remove {x : Int32} (hc : c ≤ 24) (hP : PtAt E X nc al fl c m nu V cc on op th ac af ff qs N ed zs cs ad h) (kf : (∀ i, i < c → nu i ≠ x) → Q (.returned (some (.int (nI 0)))) h sz k n) (kt : ∀ j c', j < c → nu j = x → c = c' + 1 → ∀ h' nu' V', (∀ i, i < c' → if j ≤ i then nu' i = nu (i + 1) ∧ ∀ l, l < 4 → V' i l = V (i + 1) l else nu' i = nu i ∧ ∀ l, l < 4 → V' i l = V i l) → PtAt E X nc (al + 1) fl c' m nu' V' cc on op th ac af ff qs N ed zs cs ad h' → cF X h h' → Q (.returned (some (.int (nI 1)))) h' sz k n) : Ev E m_PT_remove (d + 60) 0 [some (.ref X), some (.int x), none] [] h sz k n Q := by
  refine ev_aload_0 (ev_dt dt_PT_remove_0 0 rfl) ?_
  refine ev_get (ev_dt dt_PT_remove_0 1 rfl) g_PT_12_0 hP.1 rfl ?_
  refine ev_iload_1 (ev_dt dt_PT_remove_0 2 rfl) ?_
  refine ev_callV (ev_dt dt_PT_remove_0 3 rfl) v_PT_82_1 hP.2.1.1 [.int x] rfl np_Rows_placeOf rfl (ev_lk_of (j := 1) rfl rfl) (t_Rows_placeOf hc hP.2.1 (fun j hj_j hn_j => ev_r1 ?_) (fun hno => ev_r1 ?_))
  · refine ev_istore_2 (ev_dt dt_PT_remove_0 4 rfl) (by decide) rfl ?_
    refine ev_iload_2 (ev_dt dt_PT_remove_0 5 rfl) ?_
    refine ev_icm (ev_dt dt_PT_remove_0 6 rfl) ?_
    refine ev_icmp_neT (tgt := 16) (ev_dt dt_PT_remove_0 7 rfl) (by decide) (nI_nm (by omega)) ?_
    refine ev_aload_0 (ev_dt dt_PT_remove_0 10 rfl) ?_
    refine ev_get (ev_dt dt_PT_remove_0 11 rfl) g_PT_12_0 hP.1 rfl ?_
    refine ev_iload_2 (ev_dt dt_PT_remove_0 12 rfl) ?_
    obtain ⟨c', rfl⟩ : ∃ c', c = c' + 1 := ⟨c - 1, by omega⟩
    refine ev_callV (ev_dt dt_PT_remove_0 13 rfl) v_PT_94_1 hP.2.1.1 [.int (nI j)] rfl np_Rows_drop rfl (ev_lk_of (j := 1) rfl rfl) (t_Rows_drop (g := j) (by omega) (by omega) hP.2.1 (fun h1 nu1 V1 hR hf hI => ev_r0 ?_))
    have hP1 := hP.setR hR hf
    refine ev_aload_0 (ev_dt dt_PT_remove_0 14 rfl) ?_
    refine ev_dup (ev_dt dt_PT_remove_0 15 rfl) rfl ?_
    refine ev_get (ev_dt dt_PT_remove_0 16 rfl) g_PT_56_0 hP1.1 rfl ?_
    refine ev_ic1 (ev_dt dt_PT_remove_0 17 rfl) ?_
    refine ev_addn (ev_dt dt_PT_remove_0 18 rfl) ?_
    refine ev_put [.ref (X + 1), .ref (X + 28), .int (nI nc), .ref (X + 29), .ref (X + 33), .ref (X + 36), .ref (X + 38), .ref (X + 40), .int (nI (al + 1)), .ref (X + 41), .int (nI fl)] (ev_dt dt_PT_remove_0 19 rfl) p_PT_56_0 hP1.1 rfl rfl rfl rfl ?_
    refine ev_ic1 (ev_dt dt_PT_remove_0 20 rfl) ?_
    exact ev_ireturn (ev_dt dt_PT_remove_0 21 rfl) rfl bz1 (kt j c' hj_j hn_j rfl _ nu1 V1 hI (hP1.setO (al' := al + 1) (fl' := fl)) ((cF.of hf (by omega)).tr (cF.up (Or.inl (by omega)))))
  · refine ev_istore_2 (ev_dt dt_PT_remove_0 4 rfl) (by decide) rfl ?_
    refine ev_iload_2 (ev_dt dt_PT_remove_0 5 rfl) ?_
    refine ev_icm (ev_dt dt_PT_remove_0 6 rfl) ?_
    refine ev_icmp_neF (tgt := 16) (ev_dt dt_PT_remove_0 7 rfl) (by decide) rfl ?_
    refine ev_ic0 (ev_dt dt_PT_remove_0 8 rfl) ?_
    exact ev_ireturn (ev_dt dt_PT_remove_0 9 rfl) rfl bz0 (kf hno)
theorem t_PT_value {x y : Int32} (hc : c ≤ 24) (hs : nsp X N ad nc sz) (hP : PtAt E X nc al fl c m nu V cc on op th ac af ff qs N ed zs cs ad h) (kx : (∀ i, i < c → nu i ≠ x) ∨ (∀ l, l < 4 → y ≠ nI l) → ∀ h', PtAt E X nc al fl c m nu V cc on op th ac af ff qs N ed zs cs ad h' → nsp X N ad nc (sz + 1) → cF X h h' → h' sz = some (oB 13 []) → Q (.threw sz) h' (sz + 1) k n) (kt : ∀ j l, j < c → nu j = x → l < 4 → y = nI l → Q (.returned (some (.int (V j l)))) h sz k n) : Ev E m_PT_value (d + 60) 0 [some (.ref X), some (.int x), some (.int y), none] [] h sz (k + 1) (n + 6) Q := by
  refine ev_aload_0 (ev_dt dt_PT_value_0 0 rfl) ?_
  refine ev_get (ev_dt dt_PT_value_0 1 rfl) g_PT_12_0 hP.1 rfl ?_
  refine ev_iload_1 (ev_dt dt_PT_value_0 2 rfl) ?_
  refine ev_callV (ev_dt dt_PT_value_0 3 rfl) v_PT_82_1 hP.2.1.1 [.int x] rfl np_Rows_placeOf rfl (ev_lk_of (j := 1) rfl rfl) (t_Rows_placeOf hc hP.2.1 (fun j hj_j hn_j => ev_r1 ?_) (fun hno => ev_r1 ?_))
  · refine ev_istore_3 (ev_dt dt_PT_value_0 4 rfl) (by decide) rfl ?_
    refine ev_iload_3 (ev_dt dt_PT_value_0 5 rfl) ?_
    refine ev_icm (ev_dt dt_PT_value_0 6 rfl) ?_
    refine ev_icmp_eqF (tgt := 21) (ev_dt dt_PT_value_0 7 rfl) (by decide) (nI_nm (by omega)) ?_
    refine ev_iload_2 (ev_dt dt_PT_value_0 8 rfl) ?_
    refine ev_callS (ev_dt dt_PT_value_0 9 rfl) s_PT_86 [.int y] rfl np_PT_isColumn rfl (ev_lk_of (j := 0) rfl rfl) (t_PT_isColumn (fun hcol => ev_r1 ?_) (fun hcol => ev_r1 ?_))
    · obtain ⟨l, hl, rfl⟩ := hcol
      refine ev_if_neT (tgt := 31) (ev_dt dt_PT_value_0 10 rfl) (by decide) z10 ?_
      refine ev_wide (k' := k) (n' := n) (Nat.le_refl _) (Nat.le_add_right _ _) (Nat.le_add_right _ _) ?_
      refine ev_aload_0 (ev_dt dt_PT_value_0 16 rfl) ?_
      refine ev_get (ev_dt dt_PT_value_0 17 rfl) g_PT_12_0 hP.1 rfl ?_
      refine ev_get (ev_dt dt_PT_value_0 18 rfl) g_PT_90_1 hP.2.1.1 rfl ?_
      refine ev_iload_3 (ev_dt dt_PT_value_0 19 rfl) ?_
      refine ev_aald (t := 5) (ev_dt dt_PT_value_0 20 rfl) rfl rfl hP.2.1.2.2.1 (by omega) (by decide) (rw_v (by omega)) ?_
      refine ev_iload_2 (ev_dt dt_PT_value_0 21 rfl) ?_
      refine ev_iald (ev_dt dt_PT_value_0 22 rfl) (hP.2.1.2.2.2 _ (by omega)) (by omega) (by decide) rfl ?_
      exact ev_ireturn (ev_dt dt_PT_value_0 23 rfl) rfl rfl (kt j l hj_j hn_j hl rfl)
    · refine ev_if_neF (tgt := 31) (ev_dt dt_PT_value_0 10 rfl) (by decide) z00 ?_
      exact ev_throw (ev_dt dt_PT_value_0 11 rfl) (ev_dt dt_PT_value_0 12 rfl) (ev_dt dt_PT_value_0 13 rfl) (ev_dt dt_PT_value_0 14 rfl) (ev_dt dt_PT_value_0 15 rfl) rfl th_PT_100_102 rfl (kx (Or.inr hcol) _ (hP.ex hs) hs.up (cF.up (Or.inr hs.1)) ev_up_s)
  · refine ev_istore_3 (ev_dt dt_PT_value_0 4 rfl) (by decide) rfl ?_
    refine ev_iload_3 (ev_dt dt_PT_value_0 5 rfl) ?_
    refine ev_icm (ev_dt dt_PT_value_0 6 rfl) ?_
    refine ev_icmp_eqT (tgt := 21) (ev_dt dt_PT_value_0 7 rfl) (by decide) rfl ?_
    exact ev_throw (ev_dt dt_PT_value_0 11 rfl) (ev_dt dt_PT_value_0 12 rfl) (ev_dt dt_PT_value_0 13 rfl) (ev_dt dt_PT_value_0 14 rfl) (ev_dt dt_PT_value_0 15 rfl) rfl th_PT_100_102 rfl (kx (Or.inl hno) _ (hP.ex hs) hs.up (cF.up (Or.inr hs.1)) ev_up_s)
theorem t_PT_condition {x y v : Int32} (hcc : cc ≤ 4) (hs : nsp X N ad nc sz) (hP : PtAt E X nc al fl c m nu V cc on op th ac af ff qs N ed zs cs ad h) (k1 : (∀ l, l < 4 → x ≠ nI l) ∨ (∀ q, q < 6 → y ≠ nI q) → ∀ h', PtAt E X nc al fl c m nu V cc on op th ac af ff qs N ed zs cs ad h' → nsp X N ad nc (sz + 1) → cF X h h' → h' sz = some (oB 12 []) → Q (.threw sz) h' (sz + 1) k n) (k2 : ∀ l q, l < 4 → x = nI l → q < 6 → y = nI q → cc = 4 → ∀ h', PtAt E X nc al fl c m nu V cc on op th ac af ff qs N ed zs cs ad h' → nsp X N ad nc (sz + 1) → cF X h h' → h' sz = some (oB 11 []) → Q (.threw sz) h' (sz + 1) k n) (kk : ∀ l q, l < 4 → x = nI l → q < 6 → y = nI q → cc ≠ 4 → ∀ h', PtAt E X nc al fl c m nu V (cc + 1) (upd on cc (nI l)) (upd op cc (nI q)) (upd th cc v) ac af ff qs N ed zs cs ad h' → cF X h h' → Q (.returned (some (.int (nI (cc + 1))))) h' sz k n) : Ev E m_PT_condition (d + 60) 0 [some (.ref X), some (.int x), some (.int y), some (.int v)] [] h sz (k + 1) (n + 6) Q := by
  refine ev_iload_1 (ev_dt dt_PT_condition_0 0 rfl) ?_
  refine ev_callS (ev_dt dt_PT_condition_0 1 rfl) s_PT_86 [.int x] rfl np_PT_isColumn rfl (ev_lk_of (j := 0) rfl rfl) (t_PT_isColumn (fun hcol => ev_r1 ?_) (fun hcol => ev_r1 ?_))
  · obtain ⟨l, hl, rfl⟩ := hcol
    refine ev_if_eqF (tgt := 17) (ev_dt dt_PT_condition_0 2 rfl) (by decide) z10 ?_
    refine ev_iload_2 (ev_dt dt_PT_condition_0 3 rfl) ?_
    refine ev_if_lt (tgt := 17) (ev_dt dt_PT_condition_0 4 rfl) (by decide) (fun h1 => ?_) (fun h1 => ?_)
    · exact ev_throw (ev_dt dt_PT_condition_0 8 rfl) (ev_dt dt_PT_condition_0 9 rfl) (ev_dt dt_PT_condition_0 10 rfl) (ev_dt dt_PT_condition_0 11 rfl) (ev_dt dt_PT_condition_0 12 rfl) rfl th_PT_152_107 rfl (k1 (Or.inr (nI_nb (by decide) (Or.inl h1))) _ (hP.ex hs) hs.up (cF.up (Or.inr hs.1)) ev_up_s)
    · refine ev_iload_2 (ev_dt dt_PT_condition_0 5 rfl) ?_
      refine ev_bipush (ev_dt dt_PT_condition_0 6 rfl) bi_6 ?_
      refine ev_icmp_lt (tgt := 27) (ev_dt dt_PT_condition_0 7 rfl) (by decide) (fun h2 => ?_) (fun h2 => ?_)
      · obtain ⟨q, hq, rfl⟩ := nI_bd (c := 6) (by decide) h1 (Int32.not_le.mpr h2)
        refine ev_aload_0 (ev_dt dt_PT_condition_0 13 rfl) ?_
        refine ev_get (ev_dt dt_PT_condition_0 14 rfl) g_PT_29_0 hP.1 rfl ?_
        refine ev_get (ev_dt dt_PT_condition_0 15 rfl) g_PT_154_3 hP.2.2.2.1.1 rfl ?_
        refine ev_ic4 (ev_dt dt_PT_condition_0 16 rfl) ?_
        refine ev_icmp_ne (tgt := 48) (ev_dt dt_PT_condition_0 17 rfl) (by decide) (fun h4 => ?_) (fun h4 => ?_)
        · refine ev_wide (k' := k) (n' := n) (Nat.le_refl _) (Nat.le_add_right _ _) (Nat.le_add_right _ _) ?_
          refine ev_aload_0 (ev_dt dt_PT_condition_0 23 rfl) ?_
          refine ev_get (ev_dt dt_PT_condition_0 24 rfl) g_PT_29_0 hP.1 rfl ?_
          refine ev_iload_1 (ev_dt dt_PT_condition_0 25 rfl) ?_
          refine ev_iload_2 (ev_dt dt_PT_condition_0 26 rfl) ?_
          refine ev_iload_3 (ev_dt dt_PT_condition_0 27 rfl) ?_
          have h4' : cc ≠ 4 := fun e => h4 (by rw [e])
          refine ev_callV (ev_dt dt_PT_condition_0 28 rfl) v_PT_159_3 hP.2.2.2.1.1 [.int (nI l), .int (nI q), .int v] rfl np_Conditions_add rfl (ev_lk_of (j := 0) rfl rfl) (t_Conditions_add (by omega) hP.2.2.2.1 (ev_r0 ?_))
          have hP1 := hP.setC (CdAt.push (c := cc) (on := on) (op := op) (th := th) (x := nI l) (y := nI q) (v := v)).1 CdAt.push.2
          have hf1 := (CdAt.push (E := E) (a := X + 29) (c := cc) (on := on) (op := op) (th := th) (x := nI l) (y := nI q) (v := v) (h := h)).2
          refine ev_aload_0 (ev_dt dt_PT_condition_0 29 rfl) ?_
          refine ev_get (ev_dt dt_PT_condition_0 30 rfl) g_PT_29_0 hP1.1 rfl ?_
          refine ev_get (ev_dt dt_PT_condition_0 31 rfl) g_PT_154_3 hP1.2.2.2.1.1 rfl ?_
          exact ev_ireturn (ev_dt dt_PT_condition_0 32 rfl) rfl rfl (kk l q hl rfl hq rfl h4' _ hP1 (cF.of hf1 (by omega)))
        · exact ev_throw (ev_dt dt_PT_condition_0 18 rfl) (ev_dt dt_PT_condition_0 19 rfl) (ev_dt dt_PT_condition_0 20 rfl) (ev_dt dt_PT_condition_0 21 rfl) (ev_dt dt_PT_condition_0 22 rfl) rfl th_PT_157_75 rfl (k2 l q hl rfl hq rfl ((nI_eq (by omega) (by omega)).mp h4) _ (hP.ex hs) hs.up (cF.up (Or.inr hs.1)) ev_up_s)
      · exact ev_throw (ev_dt dt_PT_condition_0 8 rfl) (ev_dt dt_PT_condition_0 9 rfl) (ev_dt dt_PT_condition_0 10 rfl) (ev_dt dt_PT_condition_0 11 rfl) (ev_dt dt_PT_condition_0 12 rfl) rfl th_PT_152_107 rfl (k1 (Or.inr (nI_nb (by decide) (Or.inr (Int32.not_lt.mp h2)))) _ (hP.ex hs) hs.up (cF.up (Or.inr hs.1)) ev_up_s)
  · refine ev_if_eqT (tgt := 17) (ev_dt dt_PT_condition_0 2 rfl) (by decide) z00 ?_
    exact ev_throw (ev_dt dt_PT_condition_0 8 rfl) (ev_dt dt_PT_condition_0 9 rfl) (ev_dt dt_PT_condition_0 10 rfl) (ev_dt dt_PT_condition_0 11 rfl) (ev_dt dt_PT_condition_0 12 rfl) rfl th_PT_152_107 rfl (k1 (Or.inl hcol) _ (hP.ex hs) hs.up (cF.up (Or.inr hs.1)) ev_up_s)
theorem t_PT_free (hP : PtAt E X nc al fl c m nu V cc on op th ac af ff qs N ed zs cs ad h) (kk : ∀ h', PtAt E X nc al fl c m nu V 0 on op th ac af ff qs N ed zs cs ad h' → cF X h h' → Q (.returned none) h' sz k n) : Ev E m_PT_free (d + 60) 0 [some (.ref X)] [] h sz k n Q := by
  refine ev_aload_0 (ev_dt dt_PT_free_0 0 rfl) ?_
  refine ev_get (ev_dt dt_PT_free_0 1 rfl) g_PT_29_0 hP.1 rfl ?_
  refine ev_callV (ev_dt dt_PT_free_0 2 rfl) v_PT_162_3 hP.2.2.2.1.1 [] rfl np_Conditions_clear rfl (ev_lk_of (j := 0) rfl rfl) (t_Conditions_clear hP.2.2.2.1 (ev_r0 ?_))
  have hz := hP.2.2.2.1.clr
  exact ev_return (ev_dt dt_PT_free_0 3 rfl) rfl (kk _ (hP.setC hz.1 hz.2) (cF.of hz.2 (by omega)))
theorem t_PT_answer {x : Int32} (hac : ac ≤ 24) (hP : PtAt E X nc al fl c m nu V cc on op th ac af ff qs N ed zs cs ad h) (kk : ∀ r, pkR ac (fun _ => true) af x r → Q (.returned (some (.int r))) h sz k n) : Ev E m_PT_answer (d + 60) 0 [some (.ref X), some (.int x)] [] h sz k n Q := by
  obtain ⟨nbf, hNb⟩ := hP.2.2.2.2.2.2.1
  refine ev_aload_0 (ev_dt dt_PT_answer_0 0 rfl) ?_
  refine ev_get (ev_dt dt_PT_answer_0 1 rfl) g_PT_43_0 hP.1 rfl ?_
  refine ev_aload_0 (ev_dt dt_PT_answer_0 2 rfl) ?_
  refine ev_get (ev_dt dt_PT_answer_0 3 rfl) g_PT_47_0 hP.1 rfl ?_
  refine ev_iload_1 (ev_dt dt_PT_answer_0 4 rfl) ?_
  refine ev_callV (ev_dt dt_PT_answer_0 5 rfl) v_PT_200_2 hP.2.2.2.2.2.1.1 [.ref (X + 38), .int x] rfl np_RowList_pick rfl (ev_lk_of (j := 2) rfl rfl) (t_RowList_pick (S := fun _ => true) hac (by omega) hP.2.2.2.2.2.1 hNb (fun q hq => ⟨fun _ i hi => absurd hi (Nat.not_lt_zero _), fun _ => rfl⟩) (fun r hr => ev_r1 ?_))
  exact ev_ireturn (ev_dt dt_PT_answer_0 6 rfl) rfl rfl (kk r hr)
theorem t_PT_form {x : Int32} (hfl : fl ≤ 160) (hs : nsp X N ad nc sz) (hP : PtAt E X nc al fl c m nu V cc on op th ac af ff qs N ed zs cs ad h) (kx : (∀ j, j < fl → x ≠ nI j) → ∀ h', PtAt E X nc al fl c m nu V cc on op th ac af ff qs N ed zs cs ad h' → nsp X N ad nc (sz + 1) → cF X h h' → h' sz = some (oB 13 []) → Q (.threw sz) h' (sz + 1) k n) (kk : ∀ j, j < fl → x = nI j → Q (.returned (some (.int (ff j)))) h sz k n) : Ev E m_PT_form (d + 60) 0 [some (.ref X), some (.int x)] [] h sz (k + 1) (n + 6) Q := by
  refine ev_iload_1 (ev_dt dt_PT_form_0 0 rfl) ?_
  refine ev_if_lt (tgt := 12) (ev_dt dt_PT_form_0 1 rfl) (by decide) (fun h1 => ?_) (fun h1 => ?_)
  · exact ev_throw (ev_dt dt_PT_form_0 6 rfl) (ev_dt dt_PT_form_0 7 rfl) (ev_dt dt_PT_form_0 8 rfl) (ev_dt dt_PT_form_0 9 rfl) (ev_dt dt_PT_form_0 10 rfl) rfl th_PT_237_102 rfl (kx (nI_nb (by omega) (Or.inl h1)) _ (hP.ex hs) hs.up (cF.up (Or.inr hs.1)) ev_up_s)
  · refine ev_iload_1 (ev_dt dt_PT_form_0 2 rfl) ?_
    refine ev_aload_0 (ev_dt dt_PT_form_0 3 rfl) ?_
    refine ev_get (ev_dt dt_PT_form_0 4 rfl) g_PT_63_0 hP.1 rfl ?_
    refine ev_icmp_lt (tgt := 22) (ev_dt dt_PT_form_0 5 rfl) (by decide) (fun h2 => ?_) (fun h2 => ?_)
    · obtain ⟨j, hj, rfl⟩ := nI_bd (by omega) h1 (Int32.not_le.mpr h2)
      refine ev_wide (k' := k) (n' := n) (Nat.le_refl _) (Nat.le_add_right _ _) (Nat.le_add_right _ _) ?_
      refine ev_aload_0 (ev_dt dt_PT_form_0 11 rfl) ?_
      refine ev_get (ev_dt dt_PT_form_0 12 rfl) g_PT_59_0 hP.1 rfl ?_
      refine ev_iload_1 (ev_dt dt_PT_form_0 13 rfl) ?_
      refine ev_iald (ev_dt dt_PT_form_0 14 rfl) hP.2.2.2.2.2.2.2.2.1 (by omega) (by decide) rfl ?_
      exact ev_ireturn (ev_dt dt_PT_form_0 15 rfl) rfl rfl (kk j hj rfl)
    · exact ev_throw (ev_dt dt_PT_form_0 6 rfl) (ev_dt dt_PT_form_0 7 rfl) (ev_dt dt_PT_form_0 8 rfl) (ev_dt dt_PT_form_0 9 rfl) (ev_dt dt_PT_form_0 10 rfl) rfl th_PT_237_102 rfl (kx (nI_nb (by omega) (Or.inr (Int32.not_lt.mp h2))) _ (hP.ex hs) hs.up (cF.up (Or.inr hs.1)) ev_up_s)
theorem t_PT_compare {x u v : Int32} (hnc : nc ≤ 24) (hc : c ≤ 24) (hs : nsp X N ad nc sz) (hP : PtAt E X nc al fl c m nu V cc on op th ac af ff qs N ed zs cs ad h) (kx : (∀ i, i < nc → x ≠ nI i) ∨ (∀ i, i < c → nu i ≠ u) ∨ (∀ i, i < c → nu i ≠ v) → ∀ h', PtAt E X nc al fl c m nu V cc on op th ac af ff qs N ed zs cs ad h' → nsp X N ad nc (sz + 1) → cF X h h' → h' sz = some (oB 13 []) → Q (.threw sz) h' (sz + 1) k n) (kk : ∀ i j1 j2, i < nc → x = nI i → j1 < c → nu j1 = u → j2 < c → nu j2 = v → Q (.returned (some (.int (nI (say N (V j1) (V j2) i).val)))) h sz k n) : Ev E m_PT_compare (d + 60) 0 [some (.ref X), some (.int x), some (.int u), some (.int v), none, none] [] h sz (k + 1) (n + 6) Q := by
  obtain ⟨nf, hn1, hn2⟩ := hP.2.2.1
  refine ev_aload_0 (ev_dt dt_PT_compare_0 0 rfl) ?_
  refine ev_get (ev_dt dt_PT_compare_0 1 rfl) g_PT_12_0 hP.1 rfl ?_
  refine ev_iload_2 (ev_dt dt_PT_compare_0 2 rfl) ?_
  refine ev_callV (ev_dt dt_PT_compare_0 3 rfl) v_PT_82_1 hP.2.1.1 [.int u] rfl np_Rows_placeOf rfl (ev_lk_of (j := 1) rfl rfl) (t_Rows_placeOf hc hP.2.1 (fun j1 hj_j1 hn_j1 => ev_r1 ?_) (fun hno => ev_r1 ?_))
  · refine ev_istore_4 (ev_dt dt_PT_compare_0 4 rfl) (by decide) rfl ?_
    refine ev_aload_0 (ev_dt dt_PT_compare_0 5 rfl) ?_
    refine ev_get (ev_dt dt_PT_compare_0 6 rfl) g_PT_12_0 hP.1 rfl ?_
    refine ev_iload_3 (ev_dt dt_PT_compare_0 7 rfl) ?_
    refine ev_callV (ev_dt dt_PT_compare_0 8 rfl) v_PT_82_1 hP.2.1.1 [.int v] rfl np_Rows_placeOf rfl (ev_lk_of (j := 1) rfl rfl) (t_Rows_placeOf hc hP.2.1 (fun j2 hj_j2 hn_j2 => ev_r1 ?_) (fun hno => ev_r1 ?_))
    · refine ev_istore_5 (ev_dt dt_PT_compare_0 9 rfl) (by decide) rfl ?_
      refine ev_aload_0 (ev_dt dt_PT_compare_0 10 rfl) ?_
      refine ev_iload_1 (ev_dt dt_PT_compare_0 11 rfl) ?_
      refine ev_callV (ev_dt dt_PT_compare_0 12 rfl) v_PT_118_0 hP.1 [.int x] rfl np_PT_isNode rfl (ev_lk_of (j := 0) rfl rfl) (t_PT_isNode hnc hP.1 (fun hnode => ev_r1 ?_) (fun hnode => ev_r1 ?_))
      · obtain ⟨i, h_i, rfl⟩ := hnode
        refine ev_if_eqF (tgt := 40) (ev_dt dt_PT_compare_0 13 rfl) (by decide) z10 ?_
        refine ev_iload_4 (ev_dt dt_PT_compare_0 14 rfl) ?_
        refine ev_icm (ev_dt dt_PT_compare_0 15 rfl) ?_
        refine ev_icmp_eqF (tgt := 40) (ev_dt dt_PT_compare_0 16 rfl) (by decide) (nI_nm (by omega)) ?_
        refine ev_iload_5 (ev_dt dt_PT_compare_0 17 rfl) ?_
        refine ev_icm (ev_dt dt_PT_compare_0 18 rfl) ?_
        refine ev_icmp_neT (tgt := 50) (ev_dt dt_PT_compare_0 19 rfl) (by decide) (nI_nm (by omega)) ?_
        refine ev_wide (k' := k) (n' := n) (Nat.le_refl _) (Nat.le_add_right _ _) (Nat.le_add_right _ _) ?_
        refine ev_aload_0 (ev_dt dt_PT_compare_0 25 rfl) ?_
        refine ev_get (ev_dt dt_PT_compare_0 26 rfl) g_PT_18_0 hP.1 rfl ?_
        refine ev_iload_1 (ev_dt dt_PT_compare_0 27 rfl) ?_
        refine ev_aald (t := 3) (ev_dt dt_PT_compare_0 28 rfl) rfl rfl hn1 (by omega) (by decide) (rf_s (hn2 i h_i)) ?_
        refine ev_aload_0 (ev_dt dt_PT_compare_0 29 rfl) ?_
        refine ev_get (ev_dt dt_PT_compare_0 30 rfl) g_PT_12_0 hP.1 rfl ?_
        refine ev_get (ev_dt dt_PT_compare_0 31 rfl) g_PT_90_1 hP.2.1.1 rfl ?_
        refine ev_iload_4 (ev_dt dt_PT_compare_0 32 rfl) ?_
        refine ev_aald (t := 5) (ev_dt dt_PT_compare_0 33 rfl) rfl rfl hP.2.1.2.2.1 (by omega) (by decide) (rw_v (by omega)) ?_
        refine ev_aload_0 (ev_dt dt_PT_compare_0 34 rfl) ?_
        refine ev_get (ev_dt dt_PT_compare_0 35 rfl) g_PT_12_0 hP.1 rfl ?_
        refine ev_get (ev_dt dt_PT_compare_0 36 rfl) g_PT_90_1 hP.2.1.1 rfl ?_
        refine ev_iload_5 (ev_dt dt_PT_compare_0 37 rfl) ?_
        refine ev_aald (t := 5) (ev_dt dt_PT_compare_0 38 rfl) rfl rfl hP.2.1.2.2.1 (by omega) (by decide) (rw_v (by omega)) ?_
        refine ev_saysG (U := V j1) (V := V j2) (ev_dt dt_PT_compare_0 39 rfl) u_PT_167_6 u_PT_167_7 u_PT_167_8 u_PT_167_9 (hP.2.2.2.2.2.2.2.2.2.2 i h_i).1 rfl (t_says (c := nc) (fun i hi => (hP.2.2.2.2.2.2.2.2.2.2 i hi).1) (hP.2.1.2.2.2 j1 (by omega)) (hP.2.1.2.2.2 j2 (by omega)) i h_i _ (by omega)) ?_
        exact ev_ireturn (ev_dt dt_PT_compare_0 40 rfl) rfl rfl (kk i j1 j2 h_i rfl hj_j1 hn_j1 hj_j2 hn_j2)
      · refine ev_if_eqT (tgt := 40) (ev_dt dt_PT_compare_0 13 rfl) (by decide) z00 ?_
        exact ev_throw (ev_dt dt_PT_compare_0 20 rfl) (ev_dt dt_PT_compare_0 21 rfl) (ev_dt dt_PT_compare_0 22 rfl) (ev_dt dt_PT_compare_0 23 rfl) (ev_dt dt_PT_compare_0 24 rfl) rfl th_PT_165_102 rfl (kx (Or.inl hnode) _ (hP.ex hs) hs.up (cF.up (Or.inr hs.1)) ev_up_s)
    · refine ev_istore_5 (ev_dt dt_PT_compare_0 9 rfl) (by decide) rfl ?_
      refine ev_aload_0 (ev_dt dt_PT_compare_0 10 rfl) ?_
      refine ev_iload_1 (ev_dt dt_PT_compare_0 11 rfl) ?_
      refine ev_callV (ev_dt dt_PT_compare_0 12 rfl) v_PT_118_0 hP.1 [.int x] rfl np_PT_isNode rfl (ev_lk_of (j := 0) rfl rfl) (t_PT_isNode hnc hP.1 (fun hnode => ev_r1 ?_) (fun hnode => ev_r1 ?_))
      · refine ev_if_eqF (tgt := 40) (ev_dt dt_PT_compare_0 13 rfl) (by decide) z10 ?_
        refine ev_iload_4 (ev_dt dt_PT_compare_0 14 rfl) ?_
        refine ev_icm (ev_dt dt_PT_compare_0 15 rfl) ?_
        refine ev_icmp_eqF (tgt := 40) (ev_dt dt_PT_compare_0 16 rfl) (by decide) (nI_nm (by omega)) ?_
        refine ev_iload_5 (ev_dt dt_PT_compare_0 17 rfl) ?_
        refine ev_icm (ev_dt dt_PT_compare_0 18 rfl) ?_
        refine ev_icmp_neF (tgt := 50) (ev_dt dt_PT_compare_0 19 rfl) (by decide) rfl ?_
        exact ev_throw (ev_dt dt_PT_compare_0 20 rfl) (ev_dt dt_PT_compare_0 21 rfl) (ev_dt dt_PT_compare_0 22 rfl) (ev_dt dt_PT_compare_0 23 rfl) (ev_dt dt_PT_compare_0 24 rfl) rfl th_PT_165_102 rfl (kx (Or.inr (Or.inr hno)) _ (hP.ex hs) hs.up (cF.up (Or.inr hs.1)) ev_up_s)
      · refine ev_if_eqT (tgt := 40) (ev_dt dt_PT_compare_0 13 rfl) (by decide) z00 ?_
        exact ev_throw (ev_dt dt_PT_compare_0 20 rfl) (ev_dt dt_PT_compare_0 21 rfl) (ev_dt dt_PT_compare_0 22 rfl) (ev_dt dt_PT_compare_0 23 rfl) (ev_dt dt_PT_compare_0 24 rfl) rfl th_PT_165_102 rfl (kx (Or.inl hnode) _ (hP.ex hs) hs.up (cF.up (Or.inr hs.1)) ev_up_s)
  · refine ev_istore_4 (ev_dt dt_PT_compare_0 4 rfl) (by decide) rfl ?_
    refine ev_aload_0 (ev_dt dt_PT_compare_0 5 rfl) ?_
    refine ev_get (ev_dt dt_PT_compare_0 6 rfl) g_PT_12_0 hP.1 rfl ?_
    refine ev_iload_3 (ev_dt dt_PT_compare_0 7 rfl) ?_
    refine ev_callV (ev_dt dt_PT_compare_0 8 rfl) v_PT_82_1 hP.2.1.1 [.int v] rfl np_Rows_placeOf rfl (ev_lk_of (j := 1) rfl rfl) (t_Rows_placeOf hc hP.2.1 (fun j2 hj_j2 hn_j2 => ev_r1 ?_) (fun hno => ev_r1 ?_))
    · refine ev_istore_5 (ev_dt dt_PT_compare_0 9 rfl) (by decide) rfl ?_
      refine ev_aload_0 (ev_dt dt_PT_compare_0 10 rfl) ?_
      refine ev_iload_1 (ev_dt dt_PT_compare_0 11 rfl) ?_
      refine ev_callV (ev_dt dt_PT_compare_0 12 rfl) v_PT_118_0 hP.1 [.int x] rfl np_PT_isNode rfl (ev_lk_of (j := 0) rfl rfl) (t_PT_isNode hnc hP.1 (fun hnode => ev_r1 ?_) (fun hnode => ev_r1 ?_))
      · obtain ⟨i, h_i, rfl⟩ := hnode
        refine ev_if_eqF (tgt := 40) (ev_dt dt_PT_compare_0 13 rfl) (by decide) z10 ?_
        refine ev_iload_4 (ev_dt dt_PT_compare_0 14 rfl) ?_
        refine ev_icm (ev_dt dt_PT_compare_0 15 rfl) ?_
        refine ev_icmp_eqT (tgt := 40) (ev_dt dt_PT_compare_0 16 rfl) (by decide) rfl ?_
        exact ev_throw (ev_dt dt_PT_compare_0 20 rfl) (ev_dt dt_PT_compare_0 21 rfl) (ev_dt dt_PT_compare_0 22 rfl) (ev_dt dt_PT_compare_0 23 rfl) (ev_dt dt_PT_compare_0 24 rfl) rfl th_PT_165_102 rfl (kx (Or.inr (Or.inl hno)) _ (hP.ex hs) hs.up (cF.up (Or.inr hs.1)) ev_up_s)
      · refine ev_if_eqT (tgt := 40) (ev_dt dt_PT_compare_0 13 rfl) (by decide) z00 ?_
        exact ev_throw (ev_dt dt_PT_compare_0 20 rfl) (ev_dt dt_PT_compare_0 21 rfl) (ev_dt dt_PT_compare_0 22 rfl) (ev_dt dt_PT_compare_0 23 rfl) (ev_dt dt_PT_compare_0 24 rfl) rfl th_PT_165_102 rfl (kx (Or.inl hnode) _ (hP.ex hs) hs.up (cF.up (Or.inr hs.1)) ev_up_s)
    · refine ev_istore_5 (ev_dt dt_PT_compare_0 9 rfl) (by decide) rfl ?_
      refine ev_aload_0 (ev_dt dt_PT_compare_0 10 rfl) ?_
      refine ev_iload_1 (ev_dt dt_PT_compare_0 11 rfl) ?_
      refine ev_callV (ev_dt dt_PT_compare_0 12 rfl) v_PT_118_0 hP.1 [.int x] rfl np_PT_isNode rfl (ev_lk_of (j := 0) rfl rfl) (t_PT_isNode hnc hP.1 (fun hnode => ev_r1 ?_) (fun hnode => ev_r1 ?_))
      · refine ev_if_eqF (tgt := 40) (ev_dt dt_PT_compare_0 13 rfl) (by decide) z10 ?_
        refine ev_iload_4 (ev_dt dt_PT_compare_0 14 rfl) ?_
        refine ev_icm (ev_dt dt_PT_compare_0 15 rfl) ?_
        refine ev_icmp_eqT (tgt := 40) (ev_dt dt_PT_compare_0 16 rfl) (by decide) rfl ?_
        exact ev_throw (ev_dt dt_PT_compare_0 20 rfl) (ev_dt dt_PT_compare_0 21 rfl) (ev_dt dt_PT_compare_0 22 rfl) (ev_dt dt_PT_compare_0 23 rfl) (ev_dt dt_PT_compare_0 24 rfl) rfl th_PT_165_102 rfl (kx (Or.inr (Or.inr hno)) _ (hP.ex hs) hs.up (cF.up (Or.inr hs.1)) ev_up_s)
      · refine ev_if_eqT (tgt := 40) (ev_dt dt_PT_compare_0 13 rfl) (by decide) z00 ?_
        exact ev_throw (ev_dt dt_PT_compare_0 20 rfl) (ev_dt dt_PT_compare_0 21 rfl) (ev_dt dt_PT_compare_0 22 rfl) (ev_dt dt_PT_compare_0 23 rfl) (ev_dt dt_PT_compare_0 24 rfl) rfl th_PT_165_102 rfl (kx (Or.inl hnode) _ (hP.ex hs) hs.up (cF.up (Or.inr hs.1)) ev_up_s)
theorem t_PT_reason {x u v q : Int32} (hE : ev_nok E) (hnc : nc ≤ 24) (hc : c ≤ 24) (hs : nsp X N ad nc sz) (hP : PtAt E X nc al fl c m nu V cc on op th ac af ff qs N ed zs cs ad h) (kx : (∀ i, i < nc → x ≠ nI i) ∨ (∀ i, i < c → nu i ≠ u) ∨ (∀ i, i < c → nu i ≠ v) → ∀ h', PtAt E X nc al fl c m nu V cc on op th ac af ff qs N ed zs cs ad h' → nsp X N ad nc (sz + 1) → cF X h h' → h' sz = some (oB 13 []) → Q (.threw sz) h' (sz + 1) k n) (kf : ∀ i j1 j2, i < nc → x = nI i → j1 < c → nu j1 = u → j2 < c → nu j2 = v →  say N (V j1) (V j2) i ≠ 1 → Q (.returned (some (.int (-1)))) h sz k n) (kt : ∀ i j1 j2, i < nc → x = nI i → j1 < c → nu j1 = u → j2 < c → nu j2 = v →  say N (V j1) (V j2) i = 1 → Q (.returned (some (.int (wR q (wk N 23 (V j1) (V j2) i))))) h sz k n) : Ev E m_PT_reason (d + 60) 0 [some (.ref X), some (.int x), some (.int u), some (.int v), some (.int q), none, none] [] h sz (k + 1) (n + 6) Q := by
  obtain ⟨nf, hn1, hn2⟩ := hP.2.2.1
  refine ev_aload_0 (ev_dt dt_PT_reason_0 0 rfl) ?_
  refine ev_get (ev_dt dt_PT_reason_0 1 rfl) g_PT_12_0 hP.1 rfl ?_
  refine ev_iload_2 (ev_dt dt_PT_reason_0 2 rfl) ?_
  refine ev_callV (ev_dt dt_PT_reason_0 3 rfl) v_PT_82_1 hP.2.1.1 [.int u] rfl np_Rows_placeOf rfl (ev_lk_of (j := 1) rfl rfl) (t_Rows_placeOf hc hP.2.1 (fun j1 hj_j1 hn_j1 => ev_r1 ?_) (fun hno => ev_r1 ?_))
  · refine ev_istore_5 (ev_dt dt_PT_reason_0 4 rfl) (by decide) rfl ?_
    refine ev_aload_0 (ev_dt dt_PT_reason_0 5 rfl) ?_
    refine ev_get (ev_dt dt_PT_reason_0 6 rfl) g_PT_12_0 hP.1 rfl ?_
    refine ev_iload_3 (ev_dt dt_PT_reason_0 7 rfl) ?_
    refine ev_callV (ev_dt dt_PT_reason_0 8 rfl) v_PT_82_1 hP.2.1.1 [.int v] rfl np_Rows_placeOf rfl (ev_lk_of (j := 1) rfl rfl) (t_Rows_placeOf hc hP.2.1 (fun j2 hj_j2 hn_j2 => ev_r1 ?_) (fun hno => ev_r1 ?_))
    · refine ev_istore_6 (ev_dt dt_PT_reason_0 9 rfl) (by decide) rfl ?_
      refine ev_aload_0 (ev_dt dt_PT_reason_0 10 rfl) ?_
      refine ev_iload_1 (ev_dt dt_PT_reason_0 11 rfl) ?_
      refine ev_callV (ev_dt dt_PT_reason_0 12 rfl) v_PT_118_0 hP.1 [.int x] rfl np_PT_isNode rfl (ev_lk_of (j := 0) rfl rfl) (t_PT_isNode hnc hP.1 (fun hnode => ev_r1 ?_) (fun hnode => ev_r1 ?_))
      · obtain ⟨i, h_i, rfl⟩ := hnode
        refine ev_if_eqF (tgt := 40) (ev_dt dt_PT_reason_0 13 rfl) (by decide) z10 ?_
        refine ev_iload_5 (ev_dt dt_PT_reason_0 14 rfl) ?_
        refine ev_icm (ev_dt dt_PT_reason_0 15 rfl) ?_
        refine ev_icmp_eqF (tgt := 40) (ev_dt dt_PT_reason_0 16 rfl) (by decide) (nI_nm (by omega)) ?_
        refine ev_iload_6 (ev_dt dt_PT_reason_0 17 rfl) ?_
        refine ev_icm (ev_dt dt_PT_reason_0 18 rfl) ?_
        refine ev_icmp_neT (tgt := 50) (ev_dt dt_PT_reason_0 19 rfl) (by decide) (nI_nm (by omega)) ?_
        refine ev_wide (k' := k) (n' := n) (Nat.le_refl _) (Nat.le_add_right _ _) (Nat.le_add_right _ _) ?_
        refine ev_aload_0 (ev_dt dt_PT_reason_0 25 rfl) ?_
        refine ev_get (ev_dt dt_PT_reason_0 26 rfl) g_PT_18_0 hP.1 rfl ?_
        refine ev_iload_1 (ev_dt dt_PT_reason_0 27 rfl) ?_
        refine ev_aald (t := 3) (ev_dt dt_PT_reason_0 28 rfl) rfl rfl hn1 (by omega) (by decide) (rf_s (hn2 i h_i)) ?_
        refine ev_aload_0 (ev_dt dt_PT_reason_0 29 rfl) ?_
        refine ev_get (ev_dt dt_PT_reason_0 30 rfl) g_PT_12_0 hP.1 rfl ?_
        refine ev_get (ev_dt dt_PT_reason_0 31 rfl) g_PT_90_1 hP.2.1.1 rfl ?_
        refine ev_iload_5 (ev_dt dt_PT_reason_0 32 rfl) ?_
        refine ev_aald (t := 5) (ev_dt dt_PT_reason_0 33 rfl) rfl rfl hP.2.1.2.2.1 (by omega) (by decide) (rw_v (by omega)) ?_
        refine ev_aload_0 (ev_dt dt_PT_reason_0 34 rfl) ?_
        refine ev_get (ev_dt dt_PT_reason_0 35 rfl) g_PT_12_0 hP.1 rfl ?_
        refine ev_get (ev_dt dt_PT_reason_0 36 rfl) g_PT_90_1 hP.2.1.1 rfl ?_
        refine ev_iload_6 (ev_dt dt_PT_reason_0 37 rfl) ?_
        refine ev_aald (t := 5) (ev_dt dt_PT_reason_0 38 rfl) rfl rfl hP.2.1.2.2.1 (by omega) (by decide) (rw_v (by omega)) ?_
        refine ev_saysG (U := V j1) (V := V j2) (ev_dt dt_PT_reason_0 39 rfl) u_PT_167_6 u_PT_167_7 u_PT_167_8 u_PT_167_9 (hP.2.2.2.2.2.2.2.2.2.2 i h_i).1 rfl (t_says (c := nc) (fun i hi => (hP.2.2.2.2.2.2.2.2.2.2 i hi).1) (hP.2.1.2.2.2 j1 (by omega)) (hP.2.1.2.2.2 j2 (by omega)) i h_i _ (by omega)) ?_
        refine ev_ic1 (ev_dt dt_PT_reason_0 40 rfl) ?_
        refine ev_icmp_eq (tgt := 85) (ev_dt dt_PT_reason_0 41 rfl) (by decide) (fun h1 => ?_) (fun h1 => ?_)
        · refine ev_aload_0 (ev_dt dt_PT_reason_0 44 rfl) ?_
          refine ev_get (ev_dt dt_PT_reason_0 45 rfl) g_PT_18_0 hP.1 rfl ?_
          refine ev_iload_1 (ev_dt dt_PT_reason_0 46 rfl) ?_
          refine ev_aald (t := 3) (ev_dt dt_PT_reason_0 47 rfl) rfl rfl hn1 (by omega) (by decide) (rf_s (hn2 i h_i)) ?_
          refine ev_aload_0 (ev_dt dt_PT_reason_0 48 rfl) ?_
          refine ev_get (ev_dt dt_PT_reason_0 49 rfl) g_PT_12_0 hP.1 rfl ?_
          refine ev_get (ev_dt dt_PT_reason_0 50 rfl) g_PT_90_1 hP.2.1.1 rfl ?_
          refine ev_iload_5 (ev_dt dt_PT_reason_0 51 rfl) ?_
          refine ev_aald (t := 5) (ev_dt dt_PT_reason_0 52 rfl) rfl rfl hP.2.1.2.2.1 (by omega) (by decide) (rw_v (by omega)) ?_
          refine ev_aload_0 (ev_dt dt_PT_reason_0 53 rfl) ?_
          refine ev_get (ev_dt dt_PT_reason_0 54 rfl) g_PT_12_0 hP.1 rfl ?_
          refine ev_get (ev_dt dt_PT_reason_0 55 rfl) g_PT_90_1 hP.2.1.1 rfl ?_
          refine ev_iload_6 (ev_dt dt_PT_reason_0 56 rfl) ?_
          refine ev_aald (t := 5) (ev_dt dt_PT_reason_0 57 rfl) rfl rfl hP.2.1.2.2.1 (by omega) (by decide) (rw_v (by omega)) ?_
          refine ev_iload_4 (ev_dt dt_PT_reason_0 58 rfl) ?_
          refine ev_callS (ev_dt dt_PT_reason_0 59 rfl) s_PT_204 [.ref (ad i), .ref ((X + 1) + 3 + j1), .ref ((X + 1) + 3 + j2), .int q] rfl np_PT_walkToDecider rfl (ev_lk_of (j := 6) rfl rfl) (t_walk (c := nc) (N := N) (U := V j1) (V := V j2) hE hnc h_i (by omega) (fun i hi => (hP.2.2.2.2.2.2.2.2.2.2 i hi).1) (hP.2.1.2.2.2 j1 (by omega)) (hP.2.1.2.2.2 j2 (by omega)) (ev_r1 ?_))
          exact ev_ireturn (ev_dt dt_PT_reason_1 0 rfl) rfl rfl (kt i j1 j2 h_i rfl hj_j1 hn_j1 hj_j2 hn_j2 (nv.mp h1))
        · refine ev_icm (ev_dt dt_PT_reason_0 42 rfl) ?_
          exact ev_ireturn (ev_dt dt_PT_reason_0 43 rfl) rfl rfl (kf i j1 j2 h_i rfl hj_j1 hn_j1 hj_j2 hn_j2 (fun e => h1 (by rw [e]; rfl)))
      · refine ev_if_eqT (tgt := 40) (ev_dt dt_PT_reason_0 13 rfl) (by decide) z00 ?_
        exact ev_throw (ev_dt dt_PT_reason_0 20 rfl) (ev_dt dt_PT_reason_0 21 rfl) (ev_dt dt_PT_reason_0 22 rfl) (ev_dt dt_PT_reason_0 23 rfl) (ev_dt dt_PT_reason_0 24 rfl) rfl th_PT_165_102 rfl (kx (Or.inl hnode) _ (hP.ex hs) hs.up (cF.up (Or.inr hs.1)) ev_up_s)
    · refine ev_istore_6 (ev_dt dt_PT_reason_0 9 rfl) (by decide) rfl ?_
      refine ev_aload_0 (ev_dt dt_PT_reason_0 10 rfl) ?_
      refine ev_iload_1 (ev_dt dt_PT_reason_0 11 rfl) ?_
      refine ev_callV (ev_dt dt_PT_reason_0 12 rfl) v_PT_118_0 hP.1 [.int x] rfl np_PT_isNode rfl (ev_lk_of (j := 0) rfl rfl) (t_PT_isNode hnc hP.1 (fun hnode => ev_r1 ?_) (fun hnode => ev_r1 ?_))
      · refine ev_if_eqF (tgt := 40) (ev_dt dt_PT_reason_0 13 rfl) (by decide) z10 ?_
        refine ev_iload_5 (ev_dt dt_PT_reason_0 14 rfl) ?_
        refine ev_icm (ev_dt dt_PT_reason_0 15 rfl) ?_
        refine ev_icmp_eqF (tgt := 40) (ev_dt dt_PT_reason_0 16 rfl) (by decide) (nI_nm (by omega)) ?_
        refine ev_iload_6 (ev_dt dt_PT_reason_0 17 rfl) ?_
        refine ev_icm (ev_dt dt_PT_reason_0 18 rfl) ?_
        refine ev_icmp_neF (tgt := 50) (ev_dt dt_PT_reason_0 19 rfl) (by decide) rfl ?_
        exact ev_throw (ev_dt dt_PT_reason_0 20 rfl) (ev_dt dt_PT_reason_0 21 rfl) (ev_dt dt_PT_reason_0 22 rfl) (ev_dt dt_PT_reason_0 23 rfl) (ev_dt dt_PT_reason_0 24 rfl) rfl th_PT_165_102 rfl (kx (Or.inr (Or.inr hno)) _ (hP.ex hs) hs.up (cF.up (Or.inr hs.1)) ev_up_s)
      · refine ev_if_eqT (tgt := 40) (ev_dt dt_PT_reason_0 13 rfl) (by decide) z00 ?_
        exact ev_throw (ev_dt dt_PT_reason_0 20 rfl) (ev_dt dt_PT_reason_0 21 rfl) (ev_dt dt_PT_reason_0 22 rfl) (ev_dt dt_PT_reason_0 23 rfl) (ev_dt dt_PT_reason_0 24 rfl) rfl th_PT_165_102 rfl (kx (Or.inl hnode) _ (hP.ex hs) hs.up (cF.up (Or.inr hs.1)) ev_up_s)
  · refine ev_istore_5 (ev_dt dt_PT_reason_0 4 rfl) (by decide) rfl ?_
    refine ev_aload_0 (ev_dt dt_PT_reason_0 5 rfl) ?_
    refine ev_get (ev_dt dt_PT_reason_0 6 rfl) g_PT_12_0 hP.1 rfl ?_
    refine ev_iload_3 (ev_dt dt_PT_reason_0 7 rfl) ?_
    refine ev_callV (ev_dt dt_PT_reason_0 8 rfl) v_PT_82_1 hP.2.1.1 [.int v] rfl np_Rows_placeOf rfl (ev_lk_of (j := 1) rfl rfl) (t_Rows_placeOf hc hP.2.1 (fun j2 hj_j2 hn_j2 => ev_r1 ?_) (fun hno => ev_r1 ?_))
    · refine ev_istore_6 (ev_dt dt_PT_reason_0 9 rfl) (by decide) rfl ?_
      refine ev_aload_0 (ev_dt dt_PT_reason_0 10 rfl) ?_
      refine ev_iload_1 (ev_dt dt_PT_reason_0 11 rfl) ?_
      refine ev_callV (ev_dt dt_PT_reason_0 12 rfl) v_PT_118_0 hP.1 [.int x] rfl np_PT_isNode rfl (ev_lk_of (j := 0) rfl rfl) (t_PT_isNode hnc hP.1 (fun hnode => ev_r1 ?_) (fun hnode => ev_r1 ?_))
      · obtain ⟨i, h_i, rfl⟩ := hnode
        refine ev_if_eqF (tgt := 40) (ev_dt dt_PT_reason_0 13 rfl) (by decide) z10 ?_
        refine ev_iload_5 (ev_dt dt_PT_reason_0 14 rfl) ?_
        refine ev_icm (ev_dt dt_PT_reason_0 15 rfl) ?_
        refine ev_icmp_eqT (tgt := 40) (ev_dt dt_PT_reason_0 16 rfl) (by decide) rfl ?_
        exact ev_throw (ev_dt dt_PT_reason_0 20 rfl) (ev_dt dt_PT_reason_0 21 rfl) (ev_dt dt_PT_reason_0 22 rfl) (ev_dt dt_PT_reason_0 23 rfl) (ev_dt dt_PT_reason_0 24 rfl) rfl th_PT_165_102 rfl (kx (Or.inr (Or.inl hno)) _ (hP.ex hs) hs.up (cF.up (Or.inr hs.1)) ev_up_s)
      · refine ev_if_eqT (tgt := 40) (ev_dt dt_PT_reason_0 13 rfl) (by decide) z00 ?_
        exact ev_throw (ev_dt dt_PT_reason_0 20 rfl) (ev_dt dt_PT_reason_0 21 rfl) (ev_dt dt_PT_reason_0 22 rfl) (ev_dt dt_PT_reason_0 23 rfl) (ev_dt dt_PT_reason_0 24 rfl) rfl th_PT_165_102 rfl (kx (Or.inl hnode) _ (hP.ex hs) hs.up (cF.up (Or.inr hs.1)) ev_up_s)
    · refine ev_istore_6 (ev_dt dt_PT_reason_0 9 rfl) (by decide) rfl ?_
      refine ev_aload_0 (ev_dt dt_PT_reason_0 10 rfl) ?_
      refine ev_iload_1 (ev_dt dt_PT_reason_0 11 rfl) ?_
      refine ev_callV (ev_dt dt_PT_reason_0 12 rfl) v_PT_118_0 hP.1 [.int x] rfl np_PT_isNode rfl (ev_lk_of (j := 0) rfl rfl) (t_PT_isNode hnc hP.1 (fun hnode => ev_r1 ?_) (fun hnode => ev_r1 ?_))
      · refine ev_if_eqF (tgt := 40) (ev_dt dt_PT_reason_0 13 rfl) (by decide) z10 ?_
        refine ev_iload_5 (ev_dt dt_PT_reason_0 14 rfl) ?_
        refine ev_icm (ev_dt dt_PT_reason_0 15 rfl) ?_
        refine ev_icmp_eqT (tgt := 40) (ev_dt dt_PT_reason_0 16 rfl) (by decide) rfl ?_
        exact ev_throw (ev_dt dt_PT_reason_0 20 rfl) (ev_dt dt_PT_reason_0 21 rfl) (ev_dt dt_PT_reason_0 22 rfl) (ev_dt dt_PT_reason_0 23 rfl) (ev_dt dt_PT_reason_0 24 rfl) rfl th_PT_165_102 rfl (kx (Or.inr (Or.inr hno)) _ (hP.ex hs) hs.up (cF.up (Or.inr hs.1)) ev_up_s)
      · refine ev_if_eqT (tgt := 40) (ev_dt dt_PT_reason_0 13 rfl) (by decide) z00 ?_
        exact ev_throw (ev_dt dt_PT_reason_0 20 rfl) (ev_dt dt_PT_reason_0 21 rfl) (ev_dt dt_PT_reason_0 22 rfl) (ev_dt dt_PT_reason_0 23 rfl) (ev_dt dt_PT_reason_0 24 rfl) rfl th_PT_165_102 rfl (kx (Or.inl hnode) _ (hP.ex hs) hs.up (cF.up (Or.inr hs.1)) ev_up_s)
end C14
