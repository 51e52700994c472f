/-! The class's methods: layer, edge, order, term (written by gen_c17.py over walk.py). -/
section C17
variable {E : ev_E} {d : Nat} {h : ev_h} {sz k n : Nat} {Q : ev_Q}
variable {X : Nat} {nc al fl c m cc ac : Nat} {nu on op th af ff : Nat → Int32} {V : Nat → Nat → Int32} {qs : Nat → qst} {N : nod} {ed : Nat → Nat → Int32} {zs : Nat → Nat} {cs : Nat → Int32} {ad : Nat → Nat}
theorem ev_is_lay {M : ev_M} {pc pc' i : Nat} {ls : List (Option Value)} {st : List Value} (hM : M.1.cls = "PreferTable") (hd : ev_d M pc (.instanceof 124) 3 pc') (hE : ev_nok E) (hN : NdAt E N ed zs cs ad i h)
    (kt : nK N i = 4 → h (ad i) = some (oB 7 [.ref (ad i + 1), .int (nI (nC N i)), .int (nI 4), .int (nI i), .int (nI (zs i)), .int (cs i)]) → h (ad i + 1) = some (iA E 10 (nY N i)) → Ev E M d pc' ls (.int 1 :: st) h sz k n Q) (kf : nK N i ≠ 4 → Ev E M d pc' ls (.int 0 :: st) h sz k n Q) : Ev E M d pc ls (.ref (ad i) :: st) h sz k n Q := by
  have hl : Cond.classLink M.1.cls 124 "PreferTable$Layers" ∈ lw_tbl := by rw [hM]; exact wd_208
  rcases hN with ⟨hk, hc, ho⟩ | ⟨hk, hc, ho, hy⟩ | ⟨hk, hc, ho, hy⟩ | ⟨hk, h9, -, -, ho⟩
  · exact ev_isnt hd hl rfl hE (by decide) ho (kf (by omega))
  · exact ev_instY hd hl rfl (Or.inl rfl) ho (kt hk ho hy)
  · exact ev_isnt hd hl rfl hE (by decide) ho (kf (by omega))
  · exact ev_isnt hd hl rfl hE (by decide) ho (kf (by omega))
theorem ev_is_gra {M : ev_M} {pc pc' i : Nat} {ls : List (Option Value)} {st : List Value} (hM : M.1.cls = "PreferTable") (hd : ev_d M pc (.instanceof 131) 3 pc') (hE : ev_nok E) (hN : NdAt E N ed zs cs ad i h)
    (kt : nK N i = 5 → h (ad i) = some (oB 8 [.ref (ad i + 1), .ref (ad i + 2), .int (nI (nC N i)), .int (nI 5), .int (nI i), .int (nI (zs i)), .int (cs i)]) → h (ad i + 1) = some (iA E 10 (ed i)) ∧ h (ad i + 2) = some (iA E 10 (nR N i)) → Ev E M d pc' ls (.int 1 :: st) h sz k n Q) (kf : nK N i ≠ 5 → Ev E M d pc' ls (.int 0 :: st) h sz k n Q) : Ev E M d pc ls (.ref (ad i) :: st) h sz k n Q := by
  have hl : Cond.classLink M.1.cls 131 "PreferTable$Graph" ∈ lw_tbl := by rw [hM]; exact wd_516
  rcases hN with ⟨hk, hc, ho⟩ | ⟨hk, hc, ho, hy⟩ | ⟨hk, hc, ho, hy⟩ | ⟨hk, h9, -, -, ho⟩
  · exact ev_isnt hd hl rfl hE (by decide) ho (kf (by omega))
  · exact ev_isnt hd hl rfl hE (by decide) ho (kf (by omega))
  · exact ev_instY hd hl rfl (Or.inl rfl) ho (kt hk ho hy)
  · exact ev_isnt hd hl rfl hE (by decide) ho (kf (by omega))
theorem t_PT_layer {x y l : Int32} (hE : ev_nok E) (hnc : nc ≤ 24) (hs : nsp X N ad nc sz) (hP : PtAt E X nc al fl c m nu V cc on op th ac af ff qs N ed zs cs ad h) (kf : (∀ i, i < nc → x ≠ nI i) ∨ (∀ v, v < 10 → y ≠ nI v) ∨ l < -1 ∨ nI 5 < l ∨ (∃ i, i < nc ∧ x = nI i ∧ nK N i ≠ 4) → Q (.returned (some (.int (nI 0)))) h sz k n) (kt : ∀ i v, i < nc → x = nI i → v < 10 → y = nI v → -1 ≤ l → l ≤ nI 5 → nK N i = 4 → ∀ h', PtAt E X nc (al + 1) fl c m nu V cc on op th ac af ff qs (nYs N i (upd (nY N i) v l)) ed zs cs ad h' → cF X h h' → Q (.returned (some (.int (nI 1)))) h' sz k n) : Ev E m_PT_layer (d + 60) 0 [some (.ref X), some (.int x), some (.int y), some (.int l), none, none] [] h sz k n Q := by
  obtain ⟨nf, hn1, hn2⟩ := hP.2.2.1
  refine ev_aload_0 (ev_dt dt_PT_layer_0 0 rfl) ?_
  refine ev_iload_1 (ev_dt dt_PT_layer_0 1 rfl) ?_
  refine ev_callV (ev_dt dt_PT_layer_0 2 rfl) v_PT_118_0 hP.1 [.int x] rfl np_PT_isNode rfl (ev_lk_of (j := 0) rfl rfl) (t_PT_isNode hnc hP.1 (fun hnode => ev_r1 ?_) (fun hnode => ev_r1 ?_))
  · obtain ⟨i, h_i, rfl⟩ := hnode
    refine ev_if_eqF (tgt := 25) (ev_dt dt_PT_layer_0 3 rfl) (by decide) z10 ?_
    refine ev_iload_2 (ev_dt dt_PT_layer_0 4 rfl) ?_
    refine ev_callS (ev_dt dt_PT_layer_0 5 rfl) s_PT_121 [.int y] rfl np_PT_isGraded rfl (ev_lk_of (j := 0) rfl rfl) (t_PT_isGraded (fun hgv => ev_r1 ?_) (fun hgv => ev_r1 ?_))
    · obtain ⟨v, hv, rfl⟩ := hgv
      refine ev_if_eqF (tgt := 25) (ev_dt dt_PT_layer_0 6 rfl) (by decide) z10 ?_
      refine ev_iload_3 (ev_dt dt_PT_layer_0 7 rfl) ?_
      refine ev_icm (ev_dt dt_PT_layer_0 8 rfl) ?_
      refine ev_icmp_lt (tgt := 25) (ev_dt dt_PT_layer_0 9 rfl) (by decide) (fun h1 => ?_) (fun h1 => ?_)
      · refine ev_ic0 (ev_dt dt_PT_layer_0 13 rfl) ?_
        exact ev_ireturn (ev_dt dt_PT_layer_0 14 rfl) rfl bz0 (kf (Or.inr (Or.inr (Or.inl h1))))
      · refine ev_iload_3 (ev_dt dt_PT_layer_0 10 rfl) ?_
        refine ev_ic5 (ev_dt dt_PT_layer_0 11 rfl) ?_
        refine ev_icmp_le (tgt := 27) (ev_dt dt_PT_layer_0 12 rfl) (by decide) (fun h2 => ?_) (fun h2 => ?_)
        · refine ev_aload_0 (ev_dt dt_PT_layer_0 15 rfl) ?_
          refine ev_get (ev_dt dt_PT_layer_0 16 rfl) g_PT_18_0 hP.1 rfl ?_
          refine ev_iload_1 (ev_dt dt_PT_layer_0 17 rfl) ?_
          refine ev_aald (t := 3) (ev_dt dt_PT_layer_0 18 rfl) rfl rfl hn1 (by omega) (by decide) (rf_s (hn2 i h_i)) ?_
          refine ev_astore_5 (ev_dt dt_PT_layer_0 19 rfl) (by decide) rfl ?_
          refine ev_aload_5 (ev_dt dt_PT_layer_0 20 rfl) ?_
          refine ev_is_lay rfl (ev_dt dt_PT_layer_0 21 rfl) hE (hP.2.2.2.2.2.2.2.2.2.2 i h_i).1 (fun hk ho hy => ?_) (fun hk => ?_)
          · refine ev_if_eqF (tgt := 70) (ev_dt dt_PT_layer_0 22 rfl) (by decide) (by decide) ?_
            refine ev_aload_5 (ev_dt dt_PT_layer_0 23 rfl) ?_
            refine ev_cast (ev_dt dt_PT_layer_0 24 rfl) wd_208 rfl (Or.inl rfl) ho ?_
            have hX := (hs.2.1 i h_i).1
            refine ev_astore_4 (ev_dt dt_PT_layer_0 25 rfl) (by decide) rfl ?_
            refine ev_aload_4 (ev_dt dt_PT_layer_0 26 rfl) ?_
            refine ev_get (ev_dt dt_PT_layer_0 27 rfl) g_PT_126_7 ho rfl ?_
            refine ev_iload_2 (ev_dt dt_PT_layer_0 28 rfl) ?_
            refine ev_iload_3 (ev_dt dt_PT_layer_0 29 rfl) ?_
            refine ev_iast (ev_dt dt_PT_layer_0 30 rfl) hy (by omega) (by decide) ?_
            have hP1 := hP.lay (f := upd (nY N i) v l) hs h_i hk
            refine ev_aload_0 (ev_dt dt_PT_layer_0 31 rfl) ?_
            refine ev_dup (ev_dt dt_PT_layer_0 32 rfl) rfl ?_
            refine ev_get (ev_dt dt_PT_layer_0 33 rfl) g_PT_56_0 hP1.1 rfl ?_
            refine ev_ic1 (ev_dt dt_PT_layer_0 34 rfl) ?_
            refine ev_addn (ev_dt dt_PT_layer_0 35 rfl) ?_
            refine ev_put [.ref (X + 1), .ref (X + 28), .int (nI nc), .ref (X + 29), .ref (X + 33), .ref (X + 36), .ref (X + 38), .ref (X + 40), .int (nI (al + 1)), .ref (X + 41), .int (nI fl)] (ev_dt dt_PT_layer_0 36 rfl) p_PT_56_0 hP1.1 rfl rfl rfl rfl ?_
            refine ev_ic1 (ev_dt dt_PT_layer_0 37 rfl) ?_
            exact ev_ireturn (ev_dt dt_PT_layer_0 38 rfl) rfl bz1 (kt i v h_i rfl hv rfl (Int32.not_lt.mp h1) h2 hk _ (hP1.setO (al' := al + 1) (fl' := fl)) ((cF.up (Or.inr (by omega))).tr (cF.up (Or.inl (by omega)))))
          · refine ev_if_eqT (tgt := 70) (ev_dt dt_PT_layer_0 22 rfl) (by decide) rfl ?_
            refine ev_ic0 (ev_dt dt_PT_layer_0 39 rfl) ?_
            exact ev_ireturn (ev_dt dt_PT_layer_0 40 rfl) rfl bz0 (kf (Or.inr (Or.inr (Or.inr (Or.inr ⟨i, h_i, rfl, hk⟩)))))
        · refine ev_ic0 (ev_dt dt_PT_layer_0 13 rfl) ?_
          exact ev_ireturn (ev_dt dt_PT_layer_0 14 rfl) rfl bz0 (kf (Or.inr (Or.inr (Or.inr (Or.inl (Int32.not_le.mp h2))))))
    · refine ev_if_eqT (tgt := 25) (ev_dt dt_PT_layer_0 6 rfl) (by decide) z00 ?_
      refine ev_ic0 (ev_dt dt_PT_layer_0 13 rfl) ?_
      exact ev_ireturn (ev_dt dt_PT_layer_0 14 rfl) rfl bz0 (kf (Or.inr (Or.inl hgv)))
  · refine ev_if_eqT (tgt := 25) (ev_dt dt_PT_layer_0 3 rfl) (by decide) z00 ?_
    refine ev_ic0 (ev_dt dt_PT_layer_0 13 rfl) ?_
    exact ev_ireturn (ev_dt dt_PT_layer_0 14 rfl) rfl bz0 (kf (Or.inl hnode))
theorem t_PT_addEdge {i b w : Nat} (hi : i < nc) (hb : b < 10) (hw : w < 10) (hk : nK N i = 5) (ho : h (ad i) = some (oB 8 [.ref (ad i + 1), .ref (ad i + 2), .int (nI (nC N i)), .int (nI 5), .int (nI i), .int (nI (zs i)), .int (cs i)])) (he : h (ad i + 1) = some (iA E 10 (ed i))) (hr : h (ad i + 2) = some (iA E 10 (nR N i))) (hs : nsp X N ad nc sz) (hP : PtAt E X nc al fl c m nu V cc on op th ac af ff qs N ed zs cs ad h) (k2 : b = w ∨ bt (nR N i w) b = true → ∀ h', PtAt E X nc al fl c m nu V cc on op th ac af ff qs N ed zs cs ad h' → nsp X N ad nc (sz + 1) → cF X h h' → h' sz = some (oB 11 []) → Q (.threw sz) h' (sz + 1) k n) (kf : b ≠ w → bt (nR N i w) b = false → bt (ed i b) w = true → Q (.returned (some (.int (nI 0)))) h sz k n) (kt : b ≠ w → bt (nR N i w) b = false → bt (ed i b) w = false → ∀ h' r', (∀ z, z < 10 → r' z = rJ (nR N i) b w z) → PtAt E X nc (al + 1) fl c m nu V cc on op th ac af ff qs (nRs N i r') (u1 ed i (eJ (ed i) b w)) zs cs ad h' → cF X h h' → Q (.returned (some (.int (nI 1)))) h' sz k n) : Ev E m_PT_addEdge (d + 59) 0 [some (.ref X), some (.ref (ad i)), some (.int (nI b)), some (.int (nI w))] [] h sz (k + 1) (n + 6) Q := by
  have hX := (hs.2.1 i hi).1
  refine ev_iload_2 (ev_dt dt_PT_addEdge_0 0 rfl) ?_
  refine ev_iload_3 (ev_dt dt_PT_addEdge_0 1 rfl) ?_
  refine ev_icmp_eq (tgt := 14) (ev_dt dt_PT_addEdge_0 2 rfl) (by decide) (fun h1 => ?_) (fun h1 => ?_)
  · exact ev_throwG (Or.inr ⟨rfl, rfl⟩) (ev_dt dt_PT_addEdge_0 8 rfl) (ev_dt dt_PT_addEdge_0 9 rfl) (ev_dt dt_PT_addEdge_0 10 rfl) (ev_dt dt_PT_addEdge_0 11 rfl) (ev_dt dt_PT_addEdge_0 12 rfl) rfl th_PT_259_75 rfl (k2 (Or.inl ((nI_eq (by omega) (by omega)).mp h1)) _ (hP.ex hs) hs.up (cF.up (Or.inr hs.1)) ev_up_s)
  · have hne : b ≠ w := fun e => h1 (by rw [e])
    refine ev_aload_1 (ev_dt dt_PT_addEdge_0 3 rfl) ?_
    refine ev_iload_3 (ev_dt dt_PT_addEdge_0 4 rfl) ?_
    refine ev_iload_2 (ev_dt dt_PT_addEdge_0 5 rfl) ?_
    refine ev_callV (ev_dt dt_PT_addEdge_0 6 rfl) v_PT_255_8 ho [.int (nI w), .int (nI b)] rfl np_Graph_leads rfl (ev_lk_of (j := 0) rfl rfl) (t_g_leads ho hw hb hr (fun hl => ev_r1 ?_) (fun hl => ev_r1 ?_))
    · refine ev_if_eqF (tgt := 25) (ev_dt dt_PT_addEdge_0 7 rfl) (by decide) z10 ?_
      exact ev_throwG (Or.inr ⟨rfl, rfl⟩) (ev_dt dt_PT_addEdge_0 8 rfl) (ev_dt dt_PT_addEdge_0 9 rfl) (ev_dt dt_PT_addEdge_0 10 rfl) (ev_dt dt_PT_addEdge_0 11 rfl) (ev_dt dt_PT_addEdge_0 12 rfl) rfl th_PT_259_75 rfl (k2 (Or.inr hl) _ (hP.ex hs) hs.up (cF.up (Or.inr hs.1)) ev_up_s)
    · refine ev_if_eqT (tgt := 25) (ev_dt dt_PT_addEdge_0 7 rfl) (by decide) z00 ?_
      refine ev_wide (k' := k) (n' := n) (Nat.le_refl _) (Nat.le_add_right _ _) (Nat.le_add_right _ _) ?_
      refine ev_aload_1 (ev_dt dt_PT_addEdge_0 13 rfl) ?_
      refine ev_iload_2 (ev_dt dt_PT_addEdge_0 14 rfl) ?_
      refine ev_iload_3 (ev_dt dt_PT_addEdge_0 15 rfl) ?_
      refine ev_callV (ev_dt dt_PT_addEdge_0 16 rfl) v_PT_261_8 ho [.int (nI b), .int (nI w)] rfl np_Graph_hasEdge rfl (ev_lk_of (j := 0) rfl rfl) (t_g_hasEdge ho hb hw he (fun hx => ev_r1 ?_) (fun hx => ev_r1 ?_))
      · refine ev_if_eqF (tgt := 36) (ev_dt dt_PT_addEdge_0 17 rfl) (by decide) z10 ?_
        refine ev_ic0 (ev_dt dt_PT_addEdge_0 18 rfl) ?_
        exact ev_ireturn (ev_dt dt_PT_addEdge_0 19 rfl) rfl bz0 (kf hne hl hx)
      · refine ev_if_eqT (tgt := 36) (ev_dt dt_PT_addEdge_0 17 rfl) (by decide) z00 ?_
        refine ev_aload_1 (ev_dt dt_PT_addEdge_0 20 rfl) ?_
        refine ev_iload_2 (ev_dt dt_PT_addEdge_0 21 rfl) ?_
        refine ev_iload_3 (ev_dt dt_PT_addEdge_0 22 rfl) ?_
        refine ev_callV (ev_dt dt_PT_addEdge_0 23 rfl) v_PT_264_8 ho [.int (nI b), .int (nI w)] rfl np_Graph_join rfl (ev_lk_of (j := 2) rfl rfl) (t_Graph_join ho hb hw he hr (fun f1 hf1 => ev_r0 ?_))
        have hP1 := hP.edg (f := eJ (ed i) b w) (g := f1) hs hi hk
        refine ev_aload_0 (ev_dt dt_PT_addEdge_0 24 rfl) ?_
        refine ev_dup (ev_dt dt_PT_addEdge_0 25 rfl) rfl ?_
        refine ev_get (ev_dt dt_PT_addEdge_0 26 rfl) g_PT_56_0 hP1.1 rfl ?_
        refine ev_ic1 (ev_dt dt_PT_addEdge_0 27 rfl) ?_
        refine ev_addn (ev_dt dt_PT_addEdge_0 28 rfl) ?_
        refine ev_put [.ref (X + 1), .ref (X + 28), .int (nI nc), .ref (X + 29), .ref (X + 33), .ref (X + 36), .ref (X + 38), .ref (X + 40), .int (nI (al + 1)), .ref (X + 41), .int (nI fl)] (ev_dt dt_PT_addEdge_0 29 rfl) p_PT_56_0 hP1.1 rfl rfl rfl rfl ?_
        refine ev_ic1 (ev_dt dt_PT_addEdge_0 30 rfl) ?_
        exact ev_ireturn (ev_dt dt_PT_addEdge_0 31 rfl) rfl bz1 (kt hne hl hx _ f1 hf1 (hP1.setO (al' := al + 1) (fl' := fl)) (((cF.up (Or.inr (by omega))).tr (cF.up (Or.inr (by omega)))).tr (cF.up (Or.inl (by omega)))))
theorem t_PT_edge {x y z : Int32} (hE : ev_nok E) (hnc : nc ≤ 24) (hs : nsp X N ad nc sz) (hP : PtAt E X nc al fl c m nu V cc on op th ac af ff qs N ed zs cs ad h) (k1 : (∀ i, i < nc → x ≠ nI i) ∨ (∀ v, v < 10 → y ≠ nI v) ∨ (∀ v, v < 10 → z ≠ nI v) ∨ (∃ i, i < nc ∧ x = nI i ∧ nK N i ≠ 5) → ∀ h', PtAt E X nc al fl c m nu V cc on op th ac af ff qs N ed zs cs ad h' → nsp X N ad nc (sz + 1) → cF X h h' → h' sz = some (oB 12 []) → Q (.threw sz) h' (sz + 1) k n) (k2 : ∀ i b w, i < nc → x = nI i → b < 10 → y = nI b → w < 10 → z = nI w → nK N i = 5 →  b = w ∨ bt (nR N i w) b = true → ∀ h', PtAt E X nc al fl c m nu V cc on op th ac af ff qs N ed zs cs ad h' → nsp X N ad nc (sz + 1) → cF X h h' → h' sz = some (oB 11 []) → Q (.threw sz) h' (sz + 1) k n) (kf : ∀ i b w, i < nc → x = nI i → b < 10 → y = nI b → w < 10 → z = nI w → nK N i = 5 →  b ≠ w → bt (nR N i w) b = false → bt (ed i b) w = true → Q (.returned (some (.int (nI 0)))) h sz k n) (kt : ∀ i b w, i < nc → x = nI i → b < 10 → y = nI b → w < 10 → z = nI w → nK N i = 5 →  b ≠ w → bt (nR N i w) b = false → bt (ed i b) w = false → ∀ h' r', (∀ z, z < 10 → r' z = rJ (nR N i) b w z) → PtAt E X nc (al + 1) fl c m nu V cc on op th ac af ff qs (nRs N i r') (u1 ed i (eJ (ed i) b w)) zs cs ad h' → cF X h h' → Q (.returned (some (.int (nI 1)))) h' sz k n) : Ev E m_PT_edge (d + 60) 0 [some (.ref X), some (.int x), some (.int y), some (.int z), none, none] [] h sz (k + 1) (n + 6) Q := by
  obtain ⟨nf, hn1, hn2⟩ := hP.2.2.1
  refine ev_aload_0 (ev_dt dt_PT_edge_0 0 rfl) ?_
  refine ev_iload_1 (ev_dt dt_PT_edge_0 1 rfl) ?_
  refine ev_callV (ev_dt dt_PT_edge_0 2 rfl) v_PT_118_0 hP.1 [.int x] rfl np_PT_isNode rfl (ev_lk_of (j := 0) rfl rfl) (t_PT_isNode hnc hP.1 (fun hnode => ev_r1 ?_) (fun hnode => ev_r1 ?_))
  · obtain ⟨i, h_i, rfl⟩ := hnode
    refine ev_if_eqF (tgt := 22) (ev_dt dt_PT_edge_0 3 rfl) (by decide) z10 ?_
    refine ev_iload_2 (ev_dt dt_PT_edge_0 4 rfl) ?_
    refine ev_callS (ev_dt dt_PT_edge_0 5 rfl) s_PT_121 [.int y] rfl np_PT_isGraded rfl (ev_lk_of (j := 0) rfl rfl) (t_PT_isGraded (fun hgb => ev_r1 ?_) (fun hgb => ev_r1 ?_))
    · obtain ⟨b, hb, rfl⟩ := hgb
      refine ev_if_eqF (tgt := 22) (ev_dt dt_PT_edge_0 6 rfl) (by decide) z10 ?_
      refine ev_iload_3 (ev_dt dt_PT_edge_0 7 rfl) ?_
      refine ev_callS (ev_dt dt_PT_edge_0 8 rfl) s_PT_121 [.int z] rfl np_PT_isGraded rfl (ev_lk_of (j := 0) rfl rfl) (t_PT_isGraded (fun hgw => ev_r1 ?_) (fun hgw => ev_r1 ?_))
      · obtain ⟨w, hw, rfl⟩ := hgw
        refine ev_if_neT (tgt := 32) (ev_dt dt_PT_edge_0 9 rfl) (by decide) z10 ?_
        refine ev_aload_0 (ev_dt dt_PT_edge_0 15 rfl) ?_
        refine ev_get (ev_dt dt_PT_edge_0 16 rfl) g_PT_18_0 hP.1 rfl ?_
        refine ev_iload_1 (ev_dt dt_PT_edge_0 17 rfl) ?_
        refine ev_aald (t := 3) (ev_dt dt_PT_edge_0 18 rfl) rfl rfl hn1 (by omega) (by decide) (rf_s (hn2 i h_i)) ?_
        refine ev_astore_5 (ev_dt dt_PT_edge_0 19 rfl) (by decide) rfl ?_
        refine ev_aload_5 (ev_dt dt_PT_edge_0 20 rfl) ?_
        refine ev_is_gra rfl (ev_dt dt_PT_edge_0 21 rfl) hE (hP.2.2.2.2.2.2.2.2.2.2 i h_i).1 (fun hk ho hy => ?_) (fun hk => ?_)
        · refine ev_if_eqF (tgt := 64) (ev_dt dt_PT_edge_0 22 rfl) (by decide) (by decide) ?_
          refine ev_aload_5 (ev_dt dt_PT_edge_0 23 rfl) ?_
          refine ev_cast (ev_dt dt_PT_edge_0 24 rfl) wd_516 rfl (Or.inl rfl) ho ?_
          refine ev_astore_4 (ev_dt dt_PT_edge_0 25 rfl) (by decide) rfl ?_
          refine ev_aload_0 (ev_dt dt_PT_edge_0 26 rfl) ?_
          refine ev_aload_4 (ev_dt dt_PT_edge_0 27 rfl) ?_
          refine ev_iload_2 (ev_dt dt_PT_edge_0 28 rfl) ?_
          refine ev_iload_3 (ev_dt dt_PT_edge_0 29 rfl) ?_
          refine ev_callV (ev_dt dt_PT_edge_0 30 rfl) v_PT_133_0 hP.1 [.ref (ad i), .int (nI b), .int (nI w)] rfl np_PT_addEdge rfl (ev_lk_of (j := 0) rfl rfl) (t_PT_addEdge (d := d) h_i hb hw hk ho hy.1 hy.2 hs hP (fun hx h1 e1 e2 e3 e4 => ev_rt (ev_out rfl (k2 i b w h_i rfl hb rfl hw rfl hk hx h1 e1 e2 e3 e4))) (fun e1 e2 e3 => ev_r1 ?_) (fun e1 e2 e3 h1 r1 hr1 hP1 hF1 => ev_r1 ?_))
          · exact ev_ireturn (ev_dt dt_PT_edge_0 31 rfl) rfl bz0 (kf i b w h_i rfl hb rfl hw rfl hk e1 e2 e3)
          · exact ev_ireturn (ev_dt dt_PT_edge_0 31 rfl) rfl bz1 (kt i b w h_i rfl hb rfl hw rfl hk e1 e2 e3 h1 r1 hr1 hP1 hF1)
        · refine ev_if_eqT (tgt := 64) (ev_dt dt_PT_edge_0 22 rfl) (by decide) rfl ?_
          exact ev_throw (ev_dt dt_PT_edge_0 32 rfl) (ev_dt dt_PT_edge_0 33 rfl) (ev_dt dt_PT_edge_0 34 rfl) (ev_dt dt_PT_edge_0 35 rfl) (ev_dt dt_PT_edge_0 36 rfl) rfl th_PT_137_107 rfl (k1 (Or.inr (Or.inr (Or.inr ⟨i, h_i, rfl, hk⟩))) _ (hP.ex hs) hs.up (cF.up (Or.inr hs.1)) ev_up_s)
      · refine ev_if_neF (tgt := 32) (ev_dt dt_PT_edge_0 9 rfl) (by decide) z00 ?_
        exact ev_throw (ev_dt dt_PT_edge_0 10 rfl) (ev_dt dt_PT_edge_0 11 rfl) (ev_dt dt_PT_edge_0 12 rfl) (ev_dt dt_PT_edge_0 13 rfl) (ev_dt dt_PT_edge_0 14 rfl) rfl th_PT_129_107 rfl (k1 (Or.inr (Or.inr (Or.inl hgw))) _ (hP.ex hs) hs.up (cF.up (Or.inr hs.1)) ev_up_s)
    · refine ev_if_eqT (tgt := 22) (ev_dt dt_PT_edge_0 6 rfl) (by decide) z00 ?_
      exact ev_throw (ev_dt dt_PT_edge_0 10 rfl) (ev_dt dt_PT_edge_0 11 rfl) (ev_dt dt_PT_edge_0 12 rfl) (ev_dt dt_PT_edge_0 13 rfl) (ev_dt dt_PT_edge_0 14 rfl) rfl th_PT_129_107 rfl (k1 (Or.inr (Or.inl hgb)) _ (hP.ex hs) hs.up (cF.up (Or.inr hs.1)) ev_up_s)
  · refine ev_if_eqT (tgt := 22) (ev_dt dt_PT_edge_0 3 rfl) (by decide) z00 ?_
    exact ev_throw (ev_dt dt_PT_edge_0 10 rfl) (ev_dt dt_PT_edge_0 11 rfl) (ev_dt dt_PT_edge_0 12 rfl) (ev_dt dt_PT_edge_0 13 rfl) (ev_dt dt_PT_edge_0 14 rfl) rfl th_PT_129_107 rfl (k1 (Or.inl hnode) _ (hP.ex hs) hs.up (cF.up (Or.inr hs.1)) ev_up_s)
theorem t_PT_addNode_6 {a : Nat} {nf : Nat → Option Nat} {x0 x1 x2 x3 x5 x6 : Value} (hnc : nc < 24) (ha : X + 29 ≤ a) (h0 : h X = some (PtO X nc al fl)) (h28 : h (X + 28) = some (rA E 3 24 nf)) (ho : h a = some (oB 6 [x0, x1, x2, x3, .int (nI nc), x5, x6])) (kk : Q (.returned (some (.int (nI nc)))) (ev_up (ev_up h (X + 28) (rA E 3 24 (va_up nf nc (some a)))) X (PtO X (nc + 1) al fl)) sz k n) : Ev E m_PT_addNode d 0 [some (.ref X), some (.ref a)] [] h sz k n Q := by
  refine ev_aload_0 (ev_dt dt_PT_addNode_0 0 rfl) ?_
  refine ev_get (ev_dt dt_PT_addNode_0 1 rfl) g_PT_18_0 h0 rfl ?_
  refine ev_aload_0 (ev_dt dt_PT_addNode_0 2 rfl) ?_
  refine ev_get (ev_dt dt_PT_addNode_0 3 rfl) g_PT_22_0 h0 rfl ?_
  refine ev_aload_1 (ev_dt dt_PT_addNode_0 4 rfl) ?_
  refine ev_aast (t := 3) (ev_dt dt_PT_addNode_0 5 rfl) rfl rfl (Or.inr wd_1076) h28 ho (by omega) (by decide) ?_
  refine ev_aload_0 (ev_dt dt_PT_addNode_0 6 rfl) ?_
  refine ev_dup (ev_dt dt_PT_addNode_0 7 rfl) rfl ?_
  refine ev_get (ev_dt dt_PT_addNode_0 8 rfl) g_PT_22_0 ((ev_up_n (by omega)).trans h0) rfl ?_
  refine ev_ic1 (ev_dt dt_PT_addNode_0 9 rfl) ?_
  refine ev_addn (ev_dt dt_PT_addNode_0 10 rfl) ?_
  refine ev_put [.ref (X + 1), .ref (X + 28), .int (nI (nc + 1)), .ref (X + 29), .ref (X + 33), .ref (X + 36), .ref (X + 38), .ref (X + 40), .int (nI al), .ref (X + 41), .int (nI fl)] (ev_dt dt_PT_addNode_0 11 rfl) p_PT_22_0 ((ev_up_n (by omega)).trans h0) rfl rfl rfl rfl ?_
  refine ev_aload_1 (ev_dt dt_PT_addNode_0 12 rfl) ?_
  refine ev_get (ev_dt dt_PT_addNode_0 13 rfl) g_PT_252_6 ((ev_up_n (by omega)).trans ((ev_up_n (by omega)).trans ho)) rfl ?_
  exact ev_ireturn (ev_dt dt_PT_addNode_0 14 rfl) rfl rfl kk
theorem t_PT_addNode_7 {a : Nat} {nf : Nat → Option Nat} {x0 x1 x2 x4 x5 : Value} (hnc : nc < 24) (ha : X + 29 ≤ a) (h0 : h X = some (PtO X nc al fl)) (h28 : h (X + 28) = some (rA E 3 24 nf)) (ho : h a = some (oB 7 [x0, x1, x2, .int (nI nc), x4, x5])) (kk : Q (.returned (some (.int (nI nc)))) (ev_up (ev_up h (X + 28) (rA E 3 24 (va_up nf nc (some a)))) X (PtO X (nc + 1) al fl)) sz k n) : Ev E m_PT_addNode d 0 [some (.ref X), some (.ref a)] [] h sz k n Q := by
  refine ev_aload_0 (ev_dt dt_PT_addNode_0 0 rfl) ?_
  refine ev_get (ev_dt dt_PT_addNode_0 1 rfl) g_PT_18_0 h0 rfl ?_
  refine ev_aload_0 (ev_dt dt_PT_addNode_0 2 rfl) ?_
  refine ev_get (ev_dt dt_PT_addNode_0 3 rfl) g_PT_22_0 h0 rfl ?_
  refine ev_aload_1 (ev_dt dt_PT_addNode_0 4 rfl) ?_
  refine ev_aast (t := 3) (ev_dt dt_PT_addNode_0 5 rfl) rfl rfl (Or.inr wd_1074) h28 ho (by omega) (by decide) ?_
  refine ev_aload_0 (ev_dt dt_PT_addNode_0 6 rfl) ?_
  refine ev_dup (ev_dt dt_PT_addNode_0 7 rfl) rfl ?_
  refine ev_get (ev_dt dt_PT_addNode_0 8 rfl) g_PT_22_0 ((ev_up_n (by omega)).trans h0) rfl ?_
  refine ev_ic1 (ev_dt dt_PT_addNode_0 9 rfl) ?_
  refine ev_addn (ev_dt dt_PT_addNode_0 10 rfl) ?_
  refine ev_put [.ref (X + 1), .ref (X + 28), .int (nI (nc + 1)), .ref (X + 29), .ref (X + 33), .ref (X + 36), .ref (X + 38), .ref (X + 40), .int (nI al), .ref (X + 41), .int (nI fl)] (ev_dt dt_PT_addNode_0 11 rfl) p_PT_22_0 ((ev_up_n (by omega)).trans h0) rfl rfl rfl rfl ?_
  refine ev_aload_1 (ev_dt dt_PT_addNode_0 12 rfl) ?_
  refine ev_get (ev_dt dt_PT_addNode_0 13 rfl) g_PT_252_7 ((ev_up_n (by omega)).trans ((ev_up_n (by omega)).trans ho)) rfl ?_
  exact ev_ireturn (ev_dt dt_PT_addNode_0 14 rfl) rfl rfl kk
theorem t_PT_addNode_8 {a : Nat} {nf : Nat → Option Nat} {x0 x1 x2 x3 x5 x6 : Value} (hnc : nc < 24) (ha : X + 29 ≤ a) (h0 : h X = some (PtO X nc al fl)) (h28 : h (X + 28) = some (rA E 3 24 nf)) (ho : h a = some (oB 8 [x0, x1, x2, x3, .int (nI nc), x5, x6])) (kk : Q (.returned (some (.int (nI nc)))) (ev_up (ev_up h (X + 28) (rA E 3 24 (va_up nf nc (some a)))) X (PtO X (nc + 1) al fl)) sz k n) : Ev E m_PT_addNode d 0 [some (.ref X), some (.ref a)] [] h sz k n Q := by
  refine ev_aload_0 (ev_dt dt_PT_addNode_0 0 rfl) ?_
  refine ev_get (ev_dt dt_PT_addNode_0 1 rfl) g_PT_18_0 h0 rfl ?_
  refine ev_aload_0 (ev_dt dt_PT_addNode_0 2 rfl) ?_
  refine ev_get (ev_dt dt_PT_addNode_0 3 rfl) g_PT_22_0 h0 rfl ?_
  refine ev_aload_1 (ev_dt dt_PT_addNode_0 4 rfl) ?_
  refine ev_aast (t := 3) (ev_dt dt_PT_addNode_0 5 rfl) rfl rfl (Or.inr wd_1073) h28 ho (by omega) (by decide) ?_
  refine ev_aload_0 (ev_dt dt_PT_addNode_0 6 rfl) ?_
  refine ev_dup (ev_dt dt_PT_addNode_0 7 rfl) rfl ?_
  refine ev_get (ev_dt dt_PT_addNode_0 8 rfl) g_PT_22_0 ((ev_up_n (by omega)).trans h0) rfl ?_
  refine ev_ic1 (ev_dt dt_PT_addNode_0 9 rfl) ?_
  refine ev_addn (ev_dt dt_PT_addNode_0 10 rfl) ?_
  refine ev_put [.ref (X + 1), .ref (X + 28), .int (nI (nc + 1)), .ref (X + 29), .ref (X + 33), .ref (X + 36), .ref (X + 38), .ref (X + 40), .int (nI al), .ref (X + 41), .int (nI fl)] (ev_dt dt_PT_addNode_0 11 rfl) p_PT_22_0 ((ev_up_n (by omega)).trans h0) rfl rfl rfl rfl ?_
  refine ev_aload_1 (ev_dt dt_PT_addNode_0 12 rfl) ?_
  refine ev_get (ev_dt dt_PT_addNode_0 13 rfl) g_PT_252_8 ((ev_up_n (by omega)).trans ((ev_up_n (by omega)).trans ho)) rfl ?_
  exact ev_ireturn (ev_dt dt_PT_addNode_0 14 rfl) rfl rfl kk
theorem t_PT_addNode_9 {a : Nat} {nf : Nat → Option Nat} {x0 x1 x2 x4 x5 : Value} (hnc : nc < 24) (ha : X + 29 ≤ a) (h0 : h X = some (PtO X nc al fl)) (h28 : h (X + 28) = some (rA E 3 24 nf)) (ho : h a = some (oB 9 [x0, x1, x2, .int (nI nc), x4, x5])) (kk : Q (.returned (some (.int (nI nc)))) (ev_up (ev_up h (X + 28) (rA E 3 24 (va_up nf nc (some a)))) X (PtO X (nc + 1) al fl)) sz k n) : Ev E m_PT_addNode d 0 [some (.ref X), some (.ref a)] [] h sz k n Q := by
  refine ev_aload_0 (ev_dt dt_PT_addNode_0 0 rfl) ?_
  refine ev_get (ev_dt dt_PT_addNode_0 1 rfl) g_PT_18_0 h0 rfl ?_
  refine ev_aload_0 (ev_dt dt_PT_addNode_0 2 rfl) ?_
  refine ev_get (ev_dt dt_PT_addNode_0 3 rfl) g_PT_22_0 h0 rfl ?_
  refine ev_aload_1 (ev_dt dt_PT_addNode_0 4 rfl) ?_
  refine ev_aast (t := 3) (ev_dt dt_PT_addNode_0 5 rfl) rfl rfl (Or.inr wd_1075) h28 ho (by omega) (by decide) ?_
  refine ev_aload_0 (ev_dt dt_PT_addNode_0 6 rfl) ?_
  refine ev_dup (ev_dt dt_PT_addNode_0 7 rfl) rfl ?_
  refine ev_get (ev_dt dt_PT_addNode_0 8 rfl) g_PT_22_0 ((ev_up_n (by omega)).trans h0) rfl ?_
  refine ev_ic1 (ev_dt dt_PT_addNode_0 9 rfl) ?_
  refine ev_addn (ev_dt dt_PT_addNode_0 10 rfl) ?_
  refine ev_put [.ref (X + 1), .ref (X + 28), .int (nI (nc + 1)), .ref (X + 29), .ref (X + 33), .ref (X + 36), .ref (X + 38), .ref (X + 40), .int (nI al), .ref (X + 41), .int (nI fl)] (ev_dt dt_PT_addNode_0 11 rfl) p_PT_22_0 ((ev_up_n (by omega)).trans h0) rfl rfl rfl rfl ?_
  refine ev_aload_1 (ev_dt dt_PT_addNode_0 12 rfl) ?_
  refine ev_get (ev_dt dt_PT_addNode_0 13 rfl) g_PT_252_9 ((ev_up_n (by omega)).trans ((ev_up_n (by omega)).trans ho)) rfl ?_
  exact ev_ireturn (ev_dt dt_PT_addNode_0 14 rfl) rfl rfl kk
/-- the heap behind a new order -/
def oN (E : ev_E) (nc kd cl sz : Nat) (a b : Int32) (f : Nat → Int32) (h' : ev_h) : Prop :=
  (kd < 4 ∧ h' sz = some (oB 6 [.int a, .int (if kd = 2 then a else b), .int (nI cl), .int (nI kd), .int (nI nc), .int (nI 1), .int (nI 1 <<< (nI cl &&& 31))])) ∨
  (kd = 4 ∧ h' sz = some (oB 7 [.ref (sz + 1), .int (nI cl), .int (nI 4), .int (nI nc), .int (nI 1), .int (nI 1 <<< (nI cl &&& 31))]) ∧ h' (sz + 1) = some (iA E 10 f)) ∨
  (kd = 5 ∧ h' sz = some (oB 8 [.ref (sz + 1), .ref (sz + 2), .int (nI cl), .int (nI 5), .int (nI nc), .int (nI 1), .int (nI 1 <<< (nI cl &&& 31))]) ∧ h' (sz + 1) = some (iA E 10 (fun _ => nI 0)) ∧ h' (sz + 2) = some (iA E 10 (fun _ => nI 0)))
def oW (kd : Nat) : Nat := if kd = 4 then 2 else if kd = 5 then 3 else 1
theorem t_PT_newOrder {kd cl : Nat} {a b : Int32} (hkd : kd < 6) (hX : X < sz) (h0 : h X = some (PtO X nc al fl)) (kk : ∀ h' f sz', sz' = sz + oW kd → (∀ v, v < 10 → f v = -1) → oN E nc kd cl sz a b f h' → (∀ q, q < sz → h' q = h q) → Q (.returned (some (.ref sz))) h' sz' k n) : Ev E m_PT_newOrder (d + 58) 0 [some (.ref X), some (.int (nI kd)), some (.int (nI cl)), some (.int a), some (.int b)] [] h sz (k + 3) (n + 27) Q := by
  obtain hk | hk | hk : kd = 4 ∨ kd = 5 ∨ kd < 4 := by omega
  · refine ev_iload_1 (ev_dt dt_PT_newOrder_0 0 rfl) ?_
    subst hk
    refine ev_look (tgt := 28) (off := 27) (ev_dt dt_PT_newOrder_0 1 rfl) (by decide +kernel) (by decide +kernel) (by decide) ?_
    refine ev_wide (k' := k + 2) (n' := n + 16) (Nat.le_refl _) (by omega) (by omega) ?_
    refine ev_newE (N := 6) (s' := (sz + 1)) (ev_dt dt_PT_newOrder_0 2 rfl) n_PT_124 rfl ?_
    refine ev_dup (ev_dt dt_PT_newOrder_0 3 rfl) rfl ?_
    refine ev_aload_0 (ev_dt dt_PT_newOrder_0 4 rfl) ?_
    refine ev_get (ev_dt dt_PT_newOrder_0 5 rfl) g_PT_22_0 ((ev_up_n (by omega)).trans h0) rfl ?_
    refine ev_iload_2 (ev_dt dt_PT_newOrder_0 6 rfl) ?_
    refine ev_callI (a := sz) (ev_dt dt_PT_newOrder_0 7 rfl) i_PT_243 [.int (nI nc), .int (nI cl)] rfl np_Layers_init rfl (ev_lk_of (j := 1) rfl rfl) (t_Layers_init (d := d + 54) ev_up_s (fun h1 f e0 e1 ef hf => ev_r0 ?_))
    exact ev_areturn (ev_dt dt_PT_newOrder_0 8 rfl) rfl (kk h1 f (sz + 2) rfl ef (Or.inr (Or.inl ⟨rfl, e0, e1⟩)) (fun q hq => (hf q (by omega)).trans (ev_up_n (by omega))))
  · refine ev_iload_1 (ev_dt dt_PT_newOrder_0 0 rfl) ?_
    subst hk
    refine ev_look (tgt := 41) (off := 40) (ev_dt dt_PT_newOrder_0 1 rfl) (by decide +kernel) (by decide +kernel) (by decide) ?_
    refine ev_newE (N := 7) (s' := (sz + 1)) (ev_dt dt_PT_newOrder_0 9 rfl) n_PT_131 rfl ?_
    refine ev_dup (ev_dt dt_PT_newOrder_0 10 rfl) rfl ?_
    refine ev_aload_0 (ev_dt dt_PT_newOrder_0 11 rfl) ?_
    refine ev_get (ev_dt dt_PT_newOrder_0 12 rfl) g_PT_22_0 ((ev_up_n (by omega)).trans h0) rfl ?_
    refine ev_iload_2 (ev_dt dt_PT_newOrder_0 13 rfl) ?_
    refine ev_callI (a := sz) (ev_dt dt_PT_newOrder_0 14 rfl) i_PT_246 [.int (nI nc), .int (nI cl)] rfl np_Graph_init rfl (ev_lk_of (j := 0) rfl rfl) (t_Graph_init (d := d + 54) ev_up_s (fun h1 e0 e1 e2 hf => ev_r0 ?_))
    exact ev_areturn (ev_dt dt_PT_newOrder_0 15 rfl) rfl (kk h1 (fun _ => -1) (sz + 3) rfl (fun _ _ => rfl) (Or.inr (Or.inr ⟨rfl, e0, e1, e2⟩)) (fun q hq => (hf q (by omega)).trans (ev_up_n (by omega))))
  · refine ev_iload_1 (ev_dt dt_PT_newOrder_0 0 rfl) ?_
    obtain hk4 | hk4 | hk4 | hk4 : kd = 0 ∨ kd = 1 ∨ kd = 2 ∨ kd = 3 := by omega
    · subst hk4
      refine ev_look (tgt := 54) (off := 53) (ev_dt dt_PT_newOrder_0 1 rfl) (by decide +kernel) (by decide +kernel) (by decide) ?_
      refine ev_wide (k' := k + 1) (n' := n + 7) (Nat.le_refl _) (by omega) (by omega) ?_
      refine ev_newE (N := 7) (s' := (sz + 1)) (ev_dt dt_PT_newOrder_0 16 rfl) n_PT_247 rfl ?_
      refine ev_dup (ev_dt dt_PT_newOrder_0 17 rfl) rfl ?_
      refine ev_iload_1 (ev_dt dt_PT_newOrder_0 18 rfl) ?_
      refine ev_aload_0 (ev_dt dt_PT_newOrder_0 19 rfl) ?_
      refine ev_get (ev_dt dt_PT_newOrder_0 20 rfl) g_PT_22_0 ((ev_up_n (by omega)).trans h0) rfl ?_
      refine ev_iload_2 (ev_dt dt_PT_newOrder_0 21 rfl) ?_
      refine ev_iload_3 (ev_dt dt_PT_newOrder_0 22 rfl) ?_
      refine ev_iload_1 (ev_dt dt_PT_newOrder_0 23 rfl) ?_
      refine ev_ic2 (ev_dt dt_PT_newOrder_0 24 rfl) ?_
      refine ev_icmp_neT (tgt := 74) (ev_dt dt_PT_newOrder_0 25 rfl) (by decide) (by decide +kernel) ?_
      refine ev_iload_4 (ev_dt dt_PT_newOrder_0 28 rfl) ?_
      refine ev_callI (a := sz) (ev_dt dt_PT_newOrder_0 29 rfl) i_PT_249 [.int (nI 0), .int (nI nc), .int (nI cl), .int a, .int b] rfl np_ValueOrder_init rfl (ev_lk_of (j := 0) rfl rfl) (t_ValueOrder_init (d := d + 54) ev_up_s (ev_r0 ?_))
      rw [ev_up_up]
      exact ev_areturn (ev_dt dt_PT_newOrder_0 30 rfl) rfl (kk _ (fun _ => -1) (sz + 1) rfl (fun _ _ => rfl) (Or.inl ⟨by omega, ev_up_s⟩) (fun q hq => ev_up_n (by omega)))
    · subst hk4
      refine ev_look (tgt := 54) (off := 53) (ev_dt dt_PT_newOrder_0 1 rfl) (by decide +kernel) (by decide +kernel) (by decide) ?_
      refine ev_wide (k' := k + 1) (n' := n + 7) (Nat.le_refl _) (by omega) (by omega) ?_
      refine ev_newE (N := 7) (s' := (sz + 1)) (ev_dt dt_PT_newOrder_0 16 rfl) n_PT_247 rfl ?_
      refine ev_dup (ev_dt dt_PT_newOrder_0 17 rfl) rfl ?_
      refine ev_iload_1 (ev_dt dt_PT_newOrder_0 18 rfl) ?_
      refine ev_aload_0 (ev_dt dt_PT_newOrder_0 19 rfl) ?_
      refine ev_get (ev_dt dt_PT_newOrder_0 20 rfl) g_PT_22_0 ((ev_up_n (by omega)).trans h0) rfl ?_
      refine ev_iload_2 (ev_dt dt_PT_newOrder_0 21 rfl) ?_
      refine ev_iload_3 (ev_dt dt_PT_newOrder_0 22 rfl) ?_
      refine ev_iload_1 (ev_dt dt_PT_newOrder_0 23 rfl) ?_
      refine ev_ic2 (ev_dt dt_PT_newOrder_0 24 rfl) ?_
      refine ev_icmp_neT (tgt := 74) (ev_dt dt_PT_newOrder_0 25 rfl) (by decide) (by decide +kernel) ?_
      refine ev_iload_4 (ev_dt dt_PT_newOrder_0 28 rfl) ?_
      refine ev_callI (a := sz) (ev_dt dt_PT_newOrder_0 29 rfl) i_PT_249 [.int (nI 1), .int (nI nc), .int (nI cl), .int a, .int b] rfl np_ValueOrder_init rfl (ev_lk_of (j := 0) rfl rfl) (t_ValueOrder_init (d := d + 54) ev_up_s (ev_r0 ?_))
      rw [ev_up_up]
      exact ev_areturn (ev_dt dt_PT_newOrder_0 30 rfl) rfl (kk _ (fun _ => -1) (sz + 1) rfl (fun _ _ => rfl) (Or.inl ⟨by omega, ev_up_s⟩) (fun q hq => ev_up_n (by omega)))
    · subst hk4
      refine ev_look (tgt := 54) (off := 53) (ev_dt dt_PT_newOrder_0 1 rfl) (by decide +kernel) (by decide +kernel) (by decide) ?_
      refine ev_wide (k' := k + 1) (n' := n + 7) (Nat.le_refl _) (by omega) (by omega) ?_
      refine ev_newE (N := 7) (s' := (sz + 1)) (ev_dt dt_PT_newOrder_0 16 rfl) n_PT_247 rfl ?_
      refine ev_dup (ev_dt dt_PT_newOrder_0 17 rfl) rfl ?_
      refine ev_iload_1 (ev_dt dt_PT_newOrder_0 18 rfl) ?_
      refine ev_aload_0 (ev_dt dt_PT_newOrder_0 19 rfl) ?_
      refine ev_get (ev_dt dt_PT_newOrder_0 20 rfl) g_PT_22_0 ((ev_up_n (by omega)).trans h0) rfl ?_
      refine ev_iload_2 (ev_dt dt_PT_newOrder_0 21 rfl) ?_
      refine ev_iload_3 (ev_dt dt_PT_newOrder_0 22 rfl) ?_
      refine ev_iload_1 (ev_dt dt_PT_newOrder_0 23 rfl) ?_
      refine ev_ic2 (ev_dt dt_PT_newOrder_0 24 rfl) ?_
      refine ev_icmp_neF (tgt := 74) (ev_dt dt_PT_newOrder_0 25 rfl) (by decide) rfl ?_
      refine ev_iload_3 (ev_dt dt_PT_newOrder_0 26 rfl) ?_
      refine ev_goto (tgt := 76) (ev_dt dt_PT_newOrder_0 27 rfl) (by decide) ?_
      refine ev_callI (a := sz) (ev_dt dt_PT_newOrder_0 29 rfl) i_PT_249 [.int (nI 2), .int (nI nc), .int (nI cl), .int a, .int a] rfl np_ValueOrder_init rfl (ev_lk_of (j := 0) rfl rfl) (t_ValueOrder_init (d := d + 54) ev_up_s (ev_r0 ?_))
      rw [ev_up_up]
      exact ev_areturn (ev_dt dt_PT_newOrder_0 30 rfl) rfl (kk _ (fun _ => -1) (sz + 1) rfl (fun _ _ => rfl) (Or.inl ⟨by omega, ev_up_s⟩) (fun q hq => ev_up_n (by omega)))
    · subst hk4
      refine ev_look (tgt := 54) (off := 53) (ev_dt dt_PT_newOrder_0 1 rfl) (by decide +kernel) (by decide +kernel) (by decide) ?_
      refine ev_wide (k' := k + 1) (n' := n + 7) (Nat.le_refl _) (by omega) (by omega) ?_
      refine ev_newE (N := 7) (s' := (sz + 1)) (ev_dt dt_PT_newOrder_0 16 rfl) n_PT_247 rfl ?_
      refine ev_dup (ev_dt dt_PT_newOrder_0 17 rfl) rfl ?_
      refine ev_iload_1 (ev_dt dt_PT_newOrder_0 18 rfl) ?_
      refine ev_aload_0 (ev_dt dt_PT_newOrder_0 19 rfl) ?_
      refine ev_get (ev_dt dt_PT_newOrder_0 20 rfl) g_PT_22_0 ((ev_up_n (by omega)).trans h0) rfl ?_
      refine ev_iload_2 (ev_dt dt_PT_newOrder_0 21 rfl) ?_
      refine ev_iload_3 (ev_dt dt_PT_newOrder_0 22 rfl) ?_
      refine ev_iload_1 (ev_dt dt_PT_newOrder_0 23 rfl) ?_
      refine ev_ic2 (ev_dt dt_PT_newOrder_0 24 rfl) ?_
      refine ev_icmp_neT (tgt := 74) (ev_dt dt_PT_newOrder_0 25 rfl) (by decide) (by decide +kernel) ?_
      refine ev_iload_4 (ev_dt dt_PT_newOrder_0 28 rfl) ?_
      refine ev_callI (a := sz) (ev_dt dt_PT_newOrder_0 29 rfl) i_PT_249 [.int (nI 3), .int (nI nc), .int (nI cl), .int a, .int b] rfl np_ValueOrder_init rfl (ev_lk_of (j := 0) rfl rfl) (t_ValueOrder_init (d := d + 54) ev_up_s (ev_r0 ?_))
      rw [ev_up_up]
      exact ev_areturn (ev_dt dt_PT_newOrder_0 30 rfl) rfl (kk _ (fun _ => -1) (sz + 1) rfl (fun _ _ => rfl) (Or.inl ⟨by omega, ev_up_s⟩) (fun q hq => ev_up_n (by omega)))
theorem nI_5gt {x : Int32} (h : nI 5 < x) : nI 6 ≤ x := by
  rw [Int32.le_iff_toInt_le, nI_toInt (by decide)]
  rw [Int32.lt_iff_toInt_lt, nI_toInt (by decide)] at h
  omega
theorem oN_nd {kd cl : Nat} {a b : Int32} {f : Nat → Int32} {h1 h' : ev_h} (hcl : cl < 4) (hX : X + 108 ≤ sz) (ho : oN E nc kd cl sz a b f h1) (hh : ∀ q, X + 108 ≤ q → h' q = h1 q) : NdAt E (nX N nc kd cl a b f (fun _ => nI 0)) (u1 ed nc (fun _ => nI 0)) (u1 zs nc 1) (u1 cs nc (nI 1 <<< (nI cl &&& 31))) (u1 ad nc sz) nc h' := by
  unfold NdAt
  have eK : nK (nX N nc kd cl a b f (fun _ => nI 0)) nc = kd := u1_s
  have eC : nC (nX N nc kd cl a b f (fun _ => nI 0)) nc = cl := u1_s
  have eA : nA (nX N nc kd cl a b f (fun _ => nI 0)) nc = a := u1_s
  have eB : nB (nX N nc kd cl a b f (fun _ => nI 0)) nc = b := u1_s
  have eY : nY (nX N nc kd cl a b f (fun _ => nI 0)) nc = f := u1_s
  have eR : nR (nX N nc kd cl a b f (fun _ => nI 0)) nc = (fun _ => nI 0) := u1_s
  rw [eK, eC, eA, eB, eY, eR]
  simp only [u1_s]
  rcases ho with ⟨hk, ho⟩ | ⟨hk, ho, hy⟩ | ⟨hk, ho, he, hr⟩
  · exact Or.inl ⟨hk, hcl, (hh _ hX).trans ho⟩
  · exact Or.inr (Or.inl ⟨hk, hcl, (hh _ hX).trans ho, (hh _ (by omega)).trans hy⟩)
  · exact Or.inr (Or.inr (Or.inl ⟨hk, hcl, (hh _ hX).trans ho, (hh _ (by omega)).trans he, (hh _ (by omega)).trans hr⟩))
theorem t_PT_order {x y a b : Int32} (hnc : nc ≤ 24) (hqn : ∀ s, s < 4 → (qs s).1 ≤ nc) (hs : nsp X N ad nc sz) (hP : PtAt E X nc al fl c m nu V cc on op th ac af ff qs N ed zs cs ad h) (k1 : (∀ kd, kd < 6 → x ≠ nI kd) ∨ (∀ cl, cl < 4 → y ≠ nI cl) ∨ (x = nI 3 ∧ b < a) → ∀ h', PtAt E X nc al fl c m nu V cc on op th ac af ff qs N ed zs cs ad h' → nsp X N ad nc (sz + 1) → cF X h h' → h' sz = some (oB 12 []) → Q (.threw sz) h' (sz + 1) k n) (k2 : ∀ kd cl, kd < 6 → x = nI kd → cl < 4 → y = nI cl → ¬ (kd = 3 ∧ b < a) →  nc = 24 → ∀ h', PtAt E X nc al fl c m nu V cc on op th ac af ff qs N ed zs cs ad h' → nsp X N ad nc (sz + 1) → cF X h h' → h' sz = some (oB 11 []) → Q (.threw sz) h' (sz + 1) k n) (kk : ∀ kd cl, kd < 6 → x = nI kd → cl < 4 → y = nI cl → ¬ (kd = 3 ∧ b < a) →  nc ≠ 24 → ∀ h' sz' f, (∀ v, v < 10 → f v = -1) → PtAt E X (nc + 1) al fl c m nu V cc on op th ac af ff qs (nX N nc kd cl a b f (fun _ => nI 0)) (u1 ed nc (fun _ => nI 0)) (u1 zs nc 1) (u1 cs nc (nI 1 <<< (nI cl &&& 31))) (u1 ad nc sz) h' → nsp X (nX N nc kd cl a b f (fun _ => nI 0)) (u1 ad nc sz) (nc + 1) sz' → cF X h h' → Q (.returned (some (.int (nI nc)))) h' sz' k n) : Ev E m_PT_order (d + 60) 0 [some (.ref X), some (.int x), some (.int y), some (.int a), some (.int b)] [] h sz (k + 3) (n + 27) Q := by
  obtain ⟨nf, hn1, hn2⟩ := hP.2.2.1
  refine ev_iload_1 (ev_dt dt_PT_order_0 0 rfl) ?_
  refine ev_if_lt (tgt := 27) (ev_dt dt_PT_order_0 1 rfl) (by decide) (fun h1 => ?_) (fun h1 => ?_)
  · refine ev_wide (k' := k + 1) (n' := n + 6) (Nat.le_refl _) (by omega) (by omega) ?_
    exact ev_throw (ev_dt dt_PT_order_0 14 rfl) (ev_dt dt_PT_order_0 15 rfl) (ev_dt dt_PT_order_0 16 rfl) (ev_dt dt_PT_order_0 17 rfl) (ev_dt dt_PT_order_0 18 rfl) rfl th_PT_105_107 rfl (k1 (Or.inl (nI_nb (by decide) (Or.inl h1))) _ (hP.ex hs) hs.up (cF.up (Or.inr hs.1)) ev_up_s)
  · refine ev_iload_1 (ev_dt dt_PT_order_0 2 rfl) ?_
    refine ev_ic5 (ev_dt dt_PT_order_0 3 rfl) ?_
    refine ev_icmp_gt (tgt := 27) (ev_dt dt_PT_order_0 4 rfl) (by decide) (fun h2 => ?_) (fun h2 => ?_)
    · refine ev_wide (k' := k + 1) (n' := n + 6) (Nat.le_refl _) (by omega) (by omega) ?_
      exact ev_throw (ev_dt dt_PT_order_0 14 rfl) (ev_dt dt_PT_order_0 15 rfl) (ev_dt dt_PT_order_0 16 rfl) (ev_dt dt_PT_order_0 17 rfl) (ev_dt dt_PT_order_0 18 rfl) rfl th_PT_105_107 rfl (k1 (Or.inl (nI_nb (by decide) (Or.inr (nI_5gt h2)))) _ (hP.ex hs) hs.up (cF.up (Or.inr hs.1)) ev_up_s)
    · obtain ⟨kd, hkd, rfl⟩ := nI_bd (x := x) (c := 6) (by decide) h1 (fun e => h2 (Int32.lt_of_lt_of_le (by decide +kernel) e))
      refine ev_iload_2 (ev_dt dt_PT_order_0 5 rfl) ?_
      refine ev_callS (ev_dt dt_PT_order_0 6 rfl) s_PT_86 [.int y] rfl np_PT_isColumn rfl (ev_lk_of (j := 0) rfl rfl) (t_PT_isColumn (fun hcol => ev_r1 ?_) (fun hcol => ev_r1 ?_))
      · obtain ⟨cl, hcl, rfl⟩ := hcol
        refine ev_if_eqF (tgt := 27) (ev_dt dt_PT_order_0 7 rfl) (by decide) z10 ?_
        refine ev_iload_1 (ev_dt dt_PT_order_0 8 rfl) ?_
        refine ev_ic3 (ev_dt dt_PT_order_0 9 rfl) ?_
        refine ev_icmp_ne (tgt := 37) (ev_dt dt_PT_order_0 10 rfl) (by decide) (fun h3 => ?_) (fun h3 => ?_)
        · have hbt : ¬ (kd = 3 ∧ b < a) := fun e => h3 (by rw [e.1])
          refine ev_aload_0 (ev_dt dt_PT_order_0 19 rfl) ?_
          refine ev_get (ev_dt dt_PT_order_0 20 rfl) g_PT_22_0 hP.1 rfl ?_
          refine ev_bipush (ev_dt dt_PT_order_0 21 rfl) bi_24 ?_
          refine ev_icmp_ne (tgt := 56) (ev_dt dt_PT_order_0 22 rfl) (by decide) (fun h5 => ?_) (fun h5 => ?_)
          · have h24 : nc ≠ 24 := fun e => h5 (by rw [e])
            refine ev_aload_0 (ev_dt dt_PT_order_0 28 rfl) ?_
            refine ev_aload_0 (ev_dt dt_PT_order_0 29 rfl) ?_
            refine ev_iload_1 (ev_dt dt_PT_order_0 30 rfl) ?_
            refine ev_iload_2 (ev_dt dt_PT_order_0 31 rfl) ?_
            refine ev_iload_3 (ev_dt dt_PT_order_0 32 rfl) ?_
            refine ev_iload_4 (ev_dt dt_PT_order_0 33 rfl) ?_
            refine ev_callV (ev_dt dt_PT_order_0 34 rfl) v_PT_110_0 hP.1 [.int (nI kd), .int (nI cl), .int a, .int b] rfl np_PT_newOrder rfl (ev_lk_of (j := 0) rfl rfl) (t_PT_newOrder (d := d + 1) hkd (by have := hs.1; omega) hP.1 (fun h1' f sz' hsz hf hoN hfr => ev_r1 ?_))
            have hadd := hP.add (kd := kd) (cl := cl) (z0 := 1) (a := a) (b := b) (c0 := nI 1 <<< (nI cl &&& 31)) (f := f) (g := fun _ => nI 0) hs hqn hfr hsz (fun h' hh => oN_nd hcl (by have := hs.1; omega) hoN hh) hn1 hn2
            have h0' : h1' X = some (PtO X nc al fl) := (hfr X (by have := hs.1; omega)).trans hP.1
            have h28' : h1' (X + 28) = some (rA E 3 24 nf) := (hfr _ (by have := hs.1; omega)).trans hn1
            have hcf : cF X h (ev_up (ev_up h1' (X + 28) (rA E 3 24 (va_up nf nc (some sz)))) X (PtO X (nc + 1) al fl)) := fun q q1 q2 => (ev_up_n (by omega)).trans ((ev_up_n (by omega)).trans (hfr q (by have := hs.1; omega)))
            rcases id hoN with ⟨-, ho⟩ | ⟨-, ho, -⟩ | ⟨-, ho, -⟩
            · refine ev_callV (ev_dt dt_PT_order_0 35 rfl) v_PT_114_0 h0' [.ref sz] rfl np_PT_addNode rfl (ev_lk_of (j := 0) rfl rfl) (t_PT_addNode_6 (by omega) (by have := hs.1; omega) h0' h28' ho (ev_r1 ?_))
              exact ev_ireturn (ev_dt dt_PT_order_0 36 rfl) rfl rfl (kk kd cl hkd rfl hcl rfl hbt h24 _ sz' f hf hadd.1 hadd.2 hcf)
            · refine ev_callV (ev_dt dt_PT_order_0 35 rfl) v_PT_114_0 h0' [.ref sz] rfl np_PT_addNode rfl (ev_lk_of (j := 0) rfl rfl) (t_PT_addNode_7 (by omega) (by have := hs.1; omega) h0' h28' ho (ev_r1 ?_))
              exact ev_ireturn (ev_dt dt_PT_order_0 36 rfl) rfl rfl (kk kd cl hkd rfl hcl rfl hbt h24 _ sz' f hf hadd.1 hadd.2 hcf)
            · refine ev_callV (ev_dt dt_PT_order_0 35 rfl) v_PT_114_0 h0' [.ref sz] rfl np_PT_addNode rfl (ev_lk_of (j := 0) rfl rfl) (t_PT_addNode_8 (by omega) (by have := hs.1; omega) h0' h28' ho (ev_r1 ?_))
              exact ev_ireturn (ev_dt dt_PT_order_0 36 rfl) rfl rfl (kk kd cl hkd rfl hcl rfl hbt h24 _ sz' f hf hadd.1 hadd.2 hcf)
          · refine ev_wide (k' := k + 1) (n' := n + 6) (Nat.le_refl _) (by omega) (by omega) ?_
            exact ev_throw (ev_dt dt_PT_order_0 23 rfl) (ev_dt dt_PT_order_0 24 rfl) (ev_dt dt_PT_order_0 25 rfl) (ev_dt dt_PT_order_0 26 rfl) (ev_dt dt_PT_order_0 27 rfl) rfl th_PT_108_75 rfl (k2 kd cl hkd rfl hcl rfl hbt ((nI_eq (by omega) (by omega)).mp h5) _ (hP.ex hs) hs.up (cF.up (Or.inr hs.1)) ev_up_s)
        · refine ev_iload_3 (ev_dt dt_PT_order_0 11 rfl) ?_
          refine ev_iload_4 (ev_dt dt_PT_order_0 12 rfl) ?_
          refine ev_icmp_le (tgt := 37) (ev_dt dt_PT_order_0 13 rfl) (by decide) (fun h4 => ?_) (fun h4 => ?_)
          · have hbt : ¬ (kd = 3 ∧ b < a) := fun e => absurd h4 (Int32.not_le.mpr e.2)
            refine ev_aload_0 (ev_dt dt_PT_order_0 19 rfl) ?_
            refine ev_get (ev_dt dt_PT_order_0 20 rfl) g_PT_22_0 hP.1 rfl ?_
            refine ev_bipush (ev_dt dt_PT_order_0 21 rfl) bi_24 ?_
            refine ev_icmp_ne (tgt := 56) (ev_dt dt_PT_order_0 22 rfl) (by decide) (fun h5 => ?_) (fun h5 => ?_)
            · have h24 : nc ≠ 24 := fun e => h5 (by rw [e])
              refine ev_aload_0 (ev_dt dt_PT_order_0 28 rfl) ?_
              refine ev_aload_0 (ev_dt dt_PT_order_0 29 rfl) ?_
              refine ev_iload_1 (ev_dt dt_PT_order_0 30 rfl) ?_
              refine ev_iload_2 (ev_dt dt_PT_order_0 31 rfl) ?_
              refine ev_iload_3 (ev_dt dt_PT_order_0 32 rfl) ?_
              refine ev_iload_4 (ev_dt dt_PT_order_0 33 rfl) ?_
              refine ev_callV (ev_dt dt_PT_order_0 34 rfl) v_PT_110_0 hP.1 [.int (nI kd), .int (nI cl), .int a, .int b] rfl np_PT_newOrder rfl (ev_lk_of (j := 0) rfl rfl) (t_PT_newOrder (d := d + 1) hkd (by have := hs.1; omega) hP.1 (fun h1' f sz' hsz hf hoN hfr => ev_r1 ?_))
              have hadd := hP.add (kd := kd) (cl := cl) (z0 := 1) (a := a) (b := b) (c0 := nI 1 <<< (nI cl &&& 31)) (f := f) (g := fun _ => nI 0) hs hqn hfr hsz (fun h' hh => oN_nd hcl (by have := hs.1; omega) hoN hh) hn1 hn2
              have h0' : h1' X = some (PtO X nc al fl) := (hfr X (by have := hs.1; omega)).trans hP.1
              have h28' : h1' (X + 28) = some (rA E 3 24 nf) := (hfr _ (by have := hs.1; omega)).trans hn1
              have hcf : cF X h (ev_up (ev_up h1' (X + 28) (rA E 3 24 (va_up nf nc (some sz)))) X (PtO X (nc + 1) al fl)) := fun q q1 q2 => (ev_up_n (by omega)).trans ((ev_up_n (by omega)).trans (hfr q (by have := hs.1; omega)))
              rcases id hoN with ⟨-, ho⟩ | ⟨-, ho, -⟩ | ⟨-, ho, -⟩
              · refine ev_callV (ev_dt dt_PT_order_0 35 rfl) v_PT_114_0 h0' [.ref sz] rfl np_PT_addNode rfl (ev_lk_of (j := 0) rfl rfl) (t_PT_addNode_6 (by omega) (by have := hs.1; omega) h0' h28' ho (ev_r1 ?_))
                exact ev_ireturn (ev_dt dt_PT_order_0 36 rfl) rfl rfl (kk kd cl hkd rfl hcl rfl hbt h24 _ sz' f hf hadd.1 hadd.2 hcf)
              · refine ev_callV (ev_dt dt_PT_order_0 35 rfl) v_PT_114_0 h0' [.ref sz] rfl np_PT_addNode rfl (ev_lk_of (j := 0) rfl rfl) (t_PT_addNode_7 (by omega) (by have := hs.1; omega) h0' h28' ho (ev_r1 ?_))
                exact ev_ireturn (ev_dt dt_PT_order_0 36 rfl) rfl rfl (kk kd cl hkd rfl hcl rfl hbt h24 _ sz' f hf hadd.1 hadd.2 hcf)
              · refine ev_callV (ev_dt dt_PT_order_0 35 rfl) v_PT_114_0 h0' [.ref sz] rfl np_PT_addNode rfl (ev_lk_of (j := 0) rfl rfl) (t_PT_addNode_8 (by omega) (by have := hs.1; omega) h0' h28' ho (ev_r1 ?_))
                exact ev_ireturn (ev_dt dt_PT_order_0 36 rfl) rfl rfl (kk kd cl hkd rfl hcl rfl hbt h24 _ sz' f hf hadd.1 hadd.2 hcf)
            · refine ev_wide (k' := k + 1) (n' := n + 6) (Nat.le_refl _) (by omega) (by omega) ?_
              exact ev_throw (ev_dt dt_PT_order_0 23 rfl) (ev_dt dt_PT_order_0 24 rfl) (ev_dt dt_PT_order_0 25 rfl) (ev_dt dt_PT_order_0 26 rfl) (ev_dt dt_PT_order_0 27 rfl) rfl th_PT_108_75 rfl (k2 kd cl hkd rfl hcl rfl hbt ((nI_eq (by omega) (by omega)).mp h5) _ (hP.ex hs) hs.up (cF.up (Or.inr hs.1)) ev_up_s)
          · refine ev_wide (k' := k + 1) (n' := n + 6) (Nat.le_refl _) (by omega) (by omega) ?_
            exact ev_throw (ev_dt dt_PT_order_0 14 rfl) (ev_dt dt_PT_order_0 15 rfl) (ev_dt dt_PT_order_0 16 rfl) (ev_dt dt_PT_order_0 17 rfl) (ev_dt dt_PT_order_0 18 rfl) rfl th_PT_105_107 rfl (k1 (Or.inr (Or.inr ⟨h3, Int32.not_le.mp h4⟩)) _ (hP.ex hs) hs.up (cF.up (Or.inr hs.1)) ev_up_s)
      · refine ev_if_eqT (tgt := 27) (ev_dt dt_PT_order_0 7 rfl) (by decide) z00 ?_
        refine ev_wide (k' := k + 1) (n' := n + 6) (Nat.le_refl _) (by omega) (by omega) ?_
        exact ev_throw (ev_dt dt_PT_order_0 14 rfl) (ev_dt dt_PT_order_0 15 rfl) (ev_dt dt_PT_order_0 16 rfl) (ev_dt dt_PT_order_0 17 rfl) (ev_dt dt_PT_order_0 18 rfl) rfl th_PT_105_107 rfl (k1 (Or.inr (Or.inl hcol)) _ (hP.ex hs) hs.up (cF.up (Or.inr hs.1)) ev_up_s)
theorem nI_69 {x : Int32} (h1 : ¬ x < nI 6) (h2 : ¬ nI 9 < x) : ∃ kd, 6 ≤ kd ∧ kd ≤ 9 ∧ x = nI kd := by
  have h0 : ¬ x < 0 := fun e => h1 (Int32.lt_of_lt_of_le e (by decide +kernel))
  obtain ⟨j, hj, rfl⟩ := nI_of h0
  rw [nI_ltI hj (by omega)] at h1
  rw [nI_ltI (by omega) hj] at h2
  exact ⟨j, by omega, by omega, rfl⟩
theorem tN_nd {kd i j z0 : Nat} {c0 : Int32} {f : Nat → Int32} {h' : ev_h} (h6 : 6 ≤ kd) (h9 : kd ≤ 9) (hi : i < nc) (hj : j < nc) (hi' : i < 65536) (hj' : j < 65536) (ho : h' sz = some (oB 9 [.ref (ad i), .ref (ad j), .int (nI kd), .int (nI nc), .int (nI z0), .int c0])) : NdAt E (nX N nc kd 0 (nI i) (nI j) f (fun _ => nI 0)) (u1 ed nc (fun _ => nI 0)) (u1 zs nc z0) (u1 cs nc c0) (u1 ad nc sz) nc h' := by
  have eK : nK (nX N nc kd 0 (nI i) (nI j) f (fun _ => nI 0)) nc = kd := u1_s
  have eL : nL (nX N nc kd 0 (nI i) (nI j) f (fun _ => nI 0)) nc = i := by
    unfold nL
    rw [show nA (nX N nc kd 0 (nI i) (nI j) f (fun _ => nI 0)) nc = nI i from u1_s, nI_clamp (by omega)]
  have eQ : nQ (nX N nc kd 0 (nI i) (nI j) f (fun _ => nI 0)) nc = j := by
    unfold nQ
    rw [show nB (nX N nc kd 0 (nI i) (nI j) f (fun _ => nI 0)) nc = nI j from u1_s, nI_clamp (by omega)]
  refine Or.inr (Or.inr (Or.inr ?_))
  rw [eK, eL, eQ, u1_s, u1_s, u1_s, u1_n (by omega), u1_n (by omega)]
  exact ⟨h6, h9, hi, hj, ho⟩
theorem t_PT_term {x y z : Int32} (hnc : nc ≤ 24) (hZ : okZ N zs nc) (hqn : ∀ s, s < 4 → (qs s).1 ≤ nc) (hs : nsp X N ad nc sz) (hP : PtAt E X nc al fl c m nu V cc on op th ac af ff qs N ed zs cs ad h) (k1 : (∀ kd, 6 ≤ kd → kd ≤ 9 → x ≠ nI kd) ∨ (∀ i, i < nc → y ≠ nI i) ∨ (x ≠ nI 9 ∧ ∀ i, i < nc → z ≠ nI i) → ∀ h', PtAt E X nc al fl c m nu V cc on op th ac af ff qs N ed zs cs ad h' → nsp X N ad nc (sz + 1) → cF X h h' → h' sz = some (oB 12 []) → Q (.threw sz) h' (sz + 1) k n) (k2 : ∀ kd i j, 6 ≤ kd → kd ≤ 9 → x = nI kd → i < nc → y = nI i → (kd = 9 ∧ j = i) ∨ (kd ≠ 9 ∧ j < nc ∧ z = nI j) →  nc = 24 ∨ 40 < (if kd = 9 then 1 + zs i else 1 + zs i + zs j) → ∀ h', PtAt E X nc al fl c m nu V cc on op th ac af ff qs N ed zs cs ad h' → nsp X N ad nc (sz + 1) → cF X h h' → h' sz = some (oB 11 []) → Q (.threw sz) h' (sz + 1) k n) (kk : ∀ kd i j, 6 ≤ kd → kd ≤ 9 → x = nI kd → i < nc → y = nI i → (kd = 9 ∧ j = i) ∨ (kd ≠ 9 ∧ j < nc ∧ z = nI j) →  nc ≠ 24 → (if kd = 9 then 1 + zs i else 1 + zs i + zs j) ≤ 40 → ∀ h' sz' f, PtAt E X (nc + 1) al fl c m nu V cc on op th ac af ff qs (nX N nc kd 0 (nI i) (nI j) f (fun _ => nI 0)) (u1 ed nc (fun _ => nI 0)) (u1 zs nc (if kd = 9 then 1 + zs i else 1 + zs i + zs j)) (u1 cs nc (cs i ||| cs j)) (u1 ad nc sz) h' → nsp X (nX N nc kd 0 (nI i) (nI j) f (fun _ => nI 0)) (u1 ad nc sz) (nc + 1) sz' → cF X h h' → Q (.returned (some (.int (nI nc)))) h' sz' k n) : Ev E m_PT_term (d + 60) 0 [some (.ref X), some (.int x), some (.int y), some (.int z), none, none] [] h sz (k + 3) (n + 27) Q := by
  obtain ⟨nf, hn1, hn2⟩ := hP.2.2.1
  have hNd := hP.2.2.2.2.2.2.2.2.2.2
  refine ev_iload_1 (ev_dt dt_PT_term_0 0 rfl) ?_
  refine ev_bipush (ev_dt dt_PT_term_0 1 rfl) bi_6 ?_
  refine ev_icmp_lt (tgt := 34) (ev_dt dt_PT_term_0 2 rfl) (by decide) (fun h1 => ?_) (fun h1 => ?_)
  · refine ev_wide (k' := k + 1) (n' := n + 6) (Nat.le_refl _) (by omega) (by omega) ?_
    exact ev_throw (ev_dt dt_PT_term_0 17 rfl) (ev_dt dt_PT_term_0 18 rfl) (ev_dt dt_PT_term_0 19 rfl) (ev_dt dt_PT_term_0 20 rfl) (ev_dt dt_PT_term_0 21 rfl) rfl th_PT_139_107 rfl (k1 (Or.inl (fun kd a b e => by subst e; rw [nI_ltI (by omega) (by omega)] at h1; omega)) _ (hP.ex hs) hs.up (cF.up (Or.inr hs.1)) ev_up_s)
  · refine ev_iload_1 (ev_dt dt_PT_term_0 3 rfl) ?_
    refine ev_bipush (ev_dt dt_PT_term_0 4 rfl) bi_9 ?_
    refine ev_icmp_gt (tgt := 34) (ev_dt dt_PT_term_0 5 rfl) (by decide) (fun h2 => ?_) (fun h2 => ?_)
    · refine ev_wide (k' := k + 1) (n' := n + 6) (Nat.le_refl _) (by omega) (by omega) ?_
      exact ev_throw (ev_dt dt_PT_term_0 17 rfl) (ev_dt dt_PT_term_0 18 rfl) (ev_dt dt_PT_term_0 19 rfl) (ev_dt dt_PT_term_0 20 rfl) (ev_dt dt_PT_term_0 21 rfl) rfl th_PT_139_107 rfl (k1 (Or.inl (fun kd a b e => by subst e; rw [nI_ltI (by omega) (by omega)] at h2; omega)) _ (hP.ex hs) hs.up (cF.up (Or.inr hs.1)) ev_up_s)
    · obtain ⟨kd, hk6, hk9, rfl⟩ : ∃ kd, 6 ≤ kd ∧ kd ≤ 9 ∧ x = nI kd := nI_69 h1 h2
      refine ev_aload_0 (ev_dt dt_PT_term_0 6 rfl) ?_
      refine ev_iload_2 (ev_dt dt_PT_term_0 7 rfl) ?_
      refine ev_callV (ev_dt dt_PT_term_0 8 rfl) v_PT_118_0 hP.1 [.int y] rfl np_PT_isNode rfl (ev_lk_of (j := 0) rfl rfl) (t_PT_isNode hnc hP.1 (fun hnode => ev_r1 ?_) (fun hnode => ev_r1 ?_))
      · obtain ⟨i, h_i, rfl⟩ := hnode
        refine ev_if_eqF (tgt := 34) (ev_dt dt_PT_term_0 9 rfl) (by decide) z10 ?_
        refine ev_iload_1 (ev_dt dt_PT_term_0 10 rfl) ?_
        refine ev_bipush (ev_dt dt_PT_term_0 11 rfl) bi_9 ?_
        refine ev_icmp_eq (tgt := 44) (ev_dt dt_PT_term_0 12 rfl) (by decide) (fun h3 => ?_) (fun h3 => ?_)
        · have hd9 : kd = 9 := (nI_eq (by omega) (by omega)).mp h3
          refine ev_aload_0 (ev_dt dt_PT_term_0 22 rfl) ?_
          refine ev_get (ev_dt dt_PT_term_0 23 rfl) g_PT_18_0 hP.1 rfl ?_
          refine ev_iload_2 (ev_dt dt_PT_term_0 24 rfl) ?_
          refine ev_aald (t := 3) (ev_dt dt_PT_term_0 25 rfl) rfl rfl hn1 (by omega) (by decide) (rf_s (hn2 i h_i)) ?_
          refine ev_astore_4 (ev_dt dt_PT_term_0 26 rfl) (by decide) rfl ?_
          refine ev_iload_1 (ev_dt dt_PT_term_0 27 rfl) ?_
          refine ev_bipush (ev_dt dt_PT_term_0 28 rfl) bi_9 ?_
          refine ev_icmp_neF (tgt := 63) (ev_dt dt_PT_term_0 29 rfl) (by decide) h3 ?_
          refine ev_aload_4 (ev_dt dt_PT_term_0 30 rfl) ?_
          refine ev_goto (tgt := 69) (ev_dt dt_PT_term_0 31 rfl) (by decide) ?_
          refine ev_astore_5 (ev_dt dt_PT_term_0 36 rfl) (by decide) rfl ?_
          refine ev_aload_0 (ev_dt dt_PT_term_0 37 rfl) ?_
          refine ev_get (ev_dt dt_PT_term_0 38 rfl) g_PT_22_0 hP.1 rfl ?_
          refine ev_bipush (ev_dt dt_PT_term_0 39 rfl) bi_24 ?_
          refine ev_icmp_eq (tgt := 93) (ev_dt dt_PT_term_0 40 rfl) (by decide) (fun h5 => ?_) (fun h5 => ?_)
          · refine ev_wide (k' := k + 1) (n' := n + 6) (Nat.le_refl _) (by omega) (by omega) ?_
            exact ev_throw (ev_dt dt_PT_term_0 47 rfl) (ev_dt dt_PT_term_0 48 rfl) (ev_dt dt_PT_term_0 49 rfl) (ev_dt dt_PT_term_0 50 rfl) (ev_dt dt_PT_term_0 51 rfl) rfl th_PT_147_75 rfl (k2 kd i i hk6 hk9 rfl h_i rfl (Or.inl ⟨hd9, rfl⟩) (Or.inl ((nI_eq (by omega) (by omega)).mp h5)) _ (hP.ex hs) hs.up (cF.up (Or.inr hs.1)) ev_up_s)
          · have h24 : nc ≠ 24 := fun e => h5 (by rw [e])
            refine ev_iload_1 (ev_dt dt_PT_term_0 41 rfl) ?_
            refine ev_aload_4 (ev_dt dt_PT_term_0 42 rfl) ?_
            refine ev_aload_5 (ev_dt dt_PT_term_0 43 rfl) ?_
            refine ev_callS (ev_dt dt_PT_term_0 44 rfl) s_PT_141 [.int (nI kd), .ref (ad i), .ref (ad i)] rfl np_Term_sizeOf rfl (ev_lk_of (j := 0) rfl rfl) (t_Term_sizeOf (d := d + 59) (by omega) (hNd i h_i).1 (hNd i h_i).1 (ev_r1 ?_))
            have zi := (hZ i h_i).1
            have zj := (hZ i h_i).1
            have hsz : (if kd = 9 then 1 + zs i else 1 + zs i + zs i) ≤ 81 := by split <;> omega
            refine ev_bipush (ev_dt dt_PT_term_0 45 rfl) bi_40 ?_
            refine ev_icmp_le (tgt := 103) (ev_dt dt_PT_term_0 46 rfl) (by decide) (fun h6 => ?_) (fun h6 => ?_)
            · have h40 : (if kd = 9 then 1 + zs i else 1 + zs i + zs i) ≤ 40 := (nI_leI (by omega) (by omega)).mp h6
              have hsp := hs.1
              refine ev_wide (k' := k + 1) (n' := n + 6) (Nat.le_refl _) (by omega) (by omega) ?_
              refine ev_aload_0 (ev_dt dt_PT_term_0 52 rfl) ?_
              refine ev_newE (N := 6) (s' := (sz + 1)) (ev_dt dt_PT_term_0 53 rfl) n_PT_142 rfl ?_
              refine ev_dup (ev_dt dt_PT_term_0 54 rfl) rfl ?_
              refine ev_iload_1 (ev_dt dt_PT_term_0 55 rfl) ?_
              refine ev_aload_0 (ev_dt dt_PT_term_0 56 rfl) ?_
              refine ev_get (ev_dt dt_PT_term_0 57 rfl) g_PT_22_0 ((ev_up_n (by omega)).trans hP.1) rfl ?_
              refine ev_aload_4 (ev_dt dt_PT_term_0 58 rfl) ?_
              refine ev_aload_5 (ev_dt dt_PT_term_0 59 rfl) ?_
              have h9i := (hs.2.1 i h_i).2
              have h9j := (hs.2.1 i h_i).2
              refine ev_callI (a := sz) (ev_dt dt_PT_term_1 0 rfl) i_PT_149 [.int (nI kd), .int (nI nc), .ref (ad i), .ref (ad i)] rfl np_Term_init rfl (ev_lk_of (j := 0) rfl rfl) (t_Term_init (d := d + 57) (N := N) (ed := ed) (zs := zs) (cs := cs) (ad := ad) (i := i) (j := i) (by omega) ev_up_s ((hNd i h_i).1.keptW (fun z a b => ev_up_n (by omega))) ((hNd i h_i).1.keptW (fun z a b => ev_up_n (by omega))) (ev_r0 ?_))
              rw [ev_up_up]
              have hadd := hP.add (h1 := ev_up h sz (oB 9 [.ref (ad i), .ref (ad i), .int (nI kd), .int (nI nc), .int (nI (if kd = 9 then 1 + zs i else 1 + zs i + zs i)), .int (cs i ||| cs i)])) (sz' := sz + 1) (kd := kd) (cl := 0) (z0 := (if kd = 9 then 1 + zs i else 1 + zs i + zs i)) (a := nI i) (b := nI i) (c0 := cs i ||| cs i) (f := fun _ => -1) (g := fun _ => nI 0) hs hqn (fun q hq => ev_up_n (by omega)) (by rw [if_neg (by omega), if_neg (by omega)]) (fun h' hh => tN_nd hk6 hk9 h_i h_i (by omega) (by omega) ((hh _ hsp).trans ev_up_s)) hn1 hn2
              have h0' : ev_up h sz (oB 9 [.ref (ad i), .ref (ad i), .int (nI kd), .int (nI nc), .int (nI (if kd = 9 then 1 + zs i else 1 + zs i + zs i)), .int (cs i ||| cs i)]) X = some (PtO X nc al fl) := (ev_up_n (by omega)).trans hP.1
              have h28' : ev_up h sz (oB 9 [.ref (ad i), .ref (ad i), .int (nI kd), .int (nI nc), .int (nI (if kd = 9 then 1 + zs i else 1 + zs i + zs i)), .int (cs i ||| cs i)]) (X + 28) = some (rA E 3 24 nf) := (ev_up_n (by omega)).trans hn1
              have hcf : cF X h (ev_up (ev_up (ev_up h sz (oB 9 [.ref (ad i), .ref (ad i), .int (nI kd), .int (nI nc), .int (nI (if kd = 9 then 1 + zs i else 1 + zs i + zs i)), .int (cs i ||| cs i)])) (X + 28) (rA E 3 24 (va_up nf nc (some sz)))) X (PtO X (nc + 1) al fl)) := fun q q1 q2 => (ev_up_n (by omega)).trans ((ev_up_n (by omega)).trans (ev_up_n (by omega)))
              refine ev_callV (ev_dt dt_PT_term_1 1 rfl) v_PT_114_0 h0' [.ref sz] rfl np_PT_addNode rfl (ev_lk_of (j := 0) rfl rfl) (t_PT_addNode_9 (by omega) (by omega) h0' h28' ev_up_s (ev_r1 ?_))
              exact ev_ireturn (ev_dt dt_PT_term_1 2 rfl) rfl rfl (kk kd i i hk6 hk9 rfl h_i rfl (Or.inl ⟨hd9, rfl⟩) h24 h40 _ (sz + 1) (fun _ => -1) hadd.1 hadd.2 hcf)
            · refine ev_wide (k' := k + 1) (n' := n + 6) (Nat.le_refl _) (by omega) (by omega) ?_
              exact ev_throw (ev_dt dt_PT_term_0 47 rfl) (ev_dt dt_PT_term_0 48 rfl) (ev_dt dt_PT_term_0 49 rfl) (ev_dt dt_PT_term_0 50 rfl) (ev_dt dt_PT_term_0 51 rfl) rfl th_PT_147_75 rfl (k2 kd i i hk6 hk9 rfl h_i rfl (Or.inl ⟨hd9, rfl⟩) (Or.inr (Nat.lt_of_not_le (fun e => h6 (nI_le e (by omega))))) _ (hP.ex hs) hs.up (cF.up (Or.inr hs.1)) ev_up_s)
        · have hd9 : kd ≠ 9 := fun e => h3 (by rw [e])
          refine ev_aload_0 (ev_dt dt_PT_term_0 13 rfl) ?_
          refine ev_iload_3 (ev_dt dt_PT_term_0 14 rfl) ?_
          refine ev_callV (ev_dt dt_PT_term_0 15 rfl) v_PT_118_0 hP.1 [.int z] rfl np_PT_isNode rfl (ev_lk_of (j := 0) rfl rfl) (t_PT_isNode hnc hP.1 (fun hnode => ev_r1 ?_) (fun hnode => ev_r1 ?_))
          · obtain ⟨j, h_j, rfl⟩ := hnode
            refine ev_if_neT (tgt := 44) (ev_dt dt_PT_term_0 16 rfl) (by decide) z10 ?_
            refine ev_aload_0 (ev_dt dt_PT_term_0 22 rfl) ?_
            refine ev_get (ev_dt dt_PT_term_0 23 rfl) g_PT_18_0 hP.1 rfl ?_
            refine ev_iload_2 (ev_dt dt_PT_term_0 24 rfl) ?_
            refine ev_aald (t := 3) (ev_dt dt_PT_term_0 25 rfl) rfl rfl hn1 (by omega) (by decide) (rf_s (hn2 i h_i)) ?_
            refine ev_astore_4 (ev_dt dt_PT_term_0 26 rfl) (by decide) rfl ?_
            refine ev_iload_1 (ev_dt dt_PT_term_0 27 rfl) ?_
            refine ev_bipush (ev_dt dt_PT_term_0 28 rfl) bi_9 ?_
            refine ev_icmp_neT (tgt := 63) (ev_dt dt_PT_term_0 29 rfl) (by decide) h3 ?_
            refine ev_aload_0 (ev_dt dt_PT_term_0 32 rfl) ?_
            refine ev_get (ev_dt dt_PT_term_0 33 rfl) g_PT_18_0 hP.1 rfl ?_
            refine ev_iload_3 (ev_dt dt_PT_term_0 34 rfl) ?_
            refine ev_aald (t := 3) (ev_dt dt_PT_term_0 35 rfl) rfl rfl hn1 (by omega) (by decide) (rf_s (hn2 j h_j)) ?_
            refine ev_astore_5 (ev_dt dt_PT_term_0 36 rfl) (by decide) rfl ?_
            refine ev_aload_0 (ev_dt dt_PT_term_0 37 rfl) ?_
            refine ev_get (ev_dt dt_PT_term_0 38 rfl) g_PT_22_0 hP.1 rfl ?_
            refine ev_bipush (ev_dt dt_PT_term_0 39 rfl) bi_24 ?_
            refine ev_icmp_eq (tgt := 93) (ev_dt dt_PT_term_0 40 rfl) (by decide) (fun h5 => ?_) (fun h5 => ?_)
            · refine ev_wide (k' := k + 1) (n' := n + 6) (Nat.le_refl _) (by omega) (by omega) ?_
              exact ev_throw (ev_dt dt_PT_term_0 47 rfl) (ev_dt dt_PT_term_0 48 rfl) (ev_dt dt_PT_term_0 49 rfl) (ev_dt dt_PT_term_0 50 rfl) (ev_dt dt_PT_term_0 51 rfl) rfl th_PT_147_75 rfl (k2 kd i j hk6 hk9 rfl h_i rfl (Or.inr ⟨hd9, h_j, rfl⟩) (Or.inl ((nI_eq (by omega) (by omega)).mp h5)) _ (hP.ex hs) hs.up (cF.up (Or.inr hs.1)) ev_up_s)
            · have h24 : nc ≠ 24 := fun e => h5 (by rw [e])
              refine ev_iload_1 (ev_dt dt_PT_term_0 41 rfl) ?_
              refine ev_aload_4 (ev_dt dt_PT_term_0 42 rfl) ?_
              refine ev_aload_5 (ev_dt dt_PT_term_0 43 rfl) ?_
              refine ev_callS (ev_dt dt_PT_term_0 44 rfl) s_PT_141 [.int (nI kd), .ref (ad i), .ref (ad j)] rfl np_Term_sizeOf rfl (ev_lk_of (j := 0) rfl rfl) (t_Term_sizeOf (d := d + 59) (by omega) (hNd i h_i).1 (hNd j h_j).1 (ev_r1 ?_))
              have zi := (hZ i h_i).1
              have zj := (hZ j h_j).1
              have hsz : (if kd = 9 then 1 + zs i else 1 + zs i + zs j) ≤ 81 := by split <;> omega
              refine ev_bipush (ev_dt dt_PT_term_0 45 rfl) bi_40 ?_
              refine ev_icmp_le (tgt := 103) (ev_dt dt_PT_term_0 46 rfl) (by decide) (fun h6 => ?_) (fun h6 => ?_)
              · have h40 : (if kd = 9 then 1 + zs i else 1 + zs i + zs j) ≤ 40 := (nI_leI (by omega) (by omega)).mp h6
                have hsp := hs.1
                refine ev_wide (k' := k + 1) (n' := n + 6) (Nat.le_refl _) (by omega) (by omega) ?_
                refine ev_aload_0 (ev_dt dt_PT_term_0 52 rfl) ?_
                refine ev_newE (N := 6) (s' := (sz + 1)) (ev_dt dt_PT_term_0 53 rfl) n_PT_142 rfl ?_
                refine ev_dup (ev_dt dt_PT_term_0 54 rfl) rfl ?_
                refine ev_iload_1 (ev_dt dt_PT_term_0 55 rfl) ?_
                refine ev_aload_0 (ev_dt dt_PT_term_0 56 rfl) ?_
                refine ev_get (ev_dt dt_PT_term_0 57 rfl) g_PT_22_0 ((ev_up_n (by omega)).trans hP.1) rfl ?_
                refine ev_aload_4 (ev_dt dt_PT_term_0 58 rfl) ?_
                refine ev_aload_5 (ev_dt dt_PT_term_0 59 rfl) ?_
                have h9i := (hs.2.1 i h_i).2
                have h9j := (hs.2.1 j h_j).2
                refine ev_callI (a := sz) (ev_dt dt_PT_term_1 0 rfl) i_PT_149 [.int (nI kd), .int (nI nc), .ref (ad i), .ref (ad j)] rfl np_Term_init rfl (ev_lk_of (j := 0) rfl rfl) (t_Term_init (d := d + 57) (N := N) (ed := ed) (zs := zs) (cs := cs) (ad := ad) (i := i) (j := j) (by omega) ev_up_s ((hNd i h_i).1.keptW (fun z a b => ev_up_n (by omega))) ((hNd j h_j).1.keptW (fun z a b => ev_up_n (by omega))) (ev_r0 ?_))
                rw [ev_up_up]
                have hadd := hP.add (h1 := ev_up h sz (oB 9 [.ref (ad i), .ref (ad j), .int (nI kd), .int (nI nc), .int (nI (if kd = 9 then 1 + zs i else 1 + zs i + zs j)), .int (cs i ||| cs j)])) (sz' := sz + 1) (kd := kd) (cl := 0) (z0 := (if kd = 9 then 1 + zs i else 1 + zs i + zs j)) (a := nI i) (b := nI j) (c0 := cs i ||| cs j) (f := fun _ => -1) (g := fun _ => nI 0) hs hqn (fun q hq => ev_up_n (by omega)) (by rw [if_neg (by omega), if_neg (by omega)]) (fun h' hh => tN_nd hk6 hk9 h_i h_j (by omega) (by omega) ((hh _ hsp).trans ev_up_s)) hn1 hn2
                have h0' : ev_up h sz (oB 9 [.ref (ad i), .ref (ad j), .int (nI kd), .int (nI nc), .int (nI (if kd = 9 then 1 + zs i else 1 + zs i + zs j)), .int (cs i ||| cs j)]) X = some (PtO X nc al fl) := (ev_up_n (by omega)).trans hP.1
                have h28' : ev_up h sz (oB 9 [.ref (ad i), .ref (ad j), .int (nI kd), .int (nI nc), .int (nI (if kd = 9 then 1 + zs i else 1 + zs i + zs j)), .int (cs i ||| cs j)]) (X + 28) = some (rA E 3 24 nf) := (ev_up_n (by omega)).trans hn1
                have hcf : cF X h (ev_up (ev_up (ev_up h sz (oB 9 [.ref (ad i), .ref (ad j), .int (nI kd), .int (nI nc), .int (nI (if kd = 9 then 1 + zs i else 1 + zs i + zs j)), .int (cs i ||| cs j)])) (X + 28) (rA E 3 24 (va_up nf nc (some sz)))) X (PtO X (nc + 1) al fl)) := fun q q1 q2 => (ev_up_n (by omega)).trans ((ev_up_n (by omega)).trans (ev_up_n (by omega)))
                refine ev_callV (ev_dt dt_PT_term_1 1 rfl) v_PT_114_0 h0' [.ref sz] rfl np_PT_addNode rfl (ev_lk_of (j := 0) rfl rfl) (t_PT_addNode_9 (by omega) (by omega) h0' h28' ev_up_s (ev_r1 ?_))
                exact ev_ireturn (ev_dt dt_PT_term_1 2 rfl) rfl rfl (kk kd i j hk6 hk9 rfl h_i rfl (Or.inr ⟨hd9, h_j, rfl⟩) h24 h40 _ (sz + 1) (fun _ => -1) hadd.1 hadd.2 hcf)
              · refine ev_wide (k' := k + 1) (n' := n + 6) (Nat.le_refl _) (by omega) (by omega) ?_
                exact ev_throw (ev_dt dt_PT_term_0 47 rfl) (ev_dt dt_PT_term_0 48 rfl) (ev_dt dt_PT_term_0 49 rfl) (ev_dt dt_PT_term_0 50 rfl) (ev_dt dt_PT_term_0 51 rfl) rfl th_PT_147_75 rfl (k2 kd i j hk6 hk9 rfl h_i rfl (Or.inr ⟨hd9, h_j, rfl⟩) (Or.inr (Nat.lt_of_not_le (fun e => h6 (nI_le e (by omega))))) _ (hP.ex hs) hs.up (cF.up (Or.inr hs.1)) ev_up_s)
          · refine ev_if_neF (tgt := 44) (ev_dt dt_PT_term_0 16 rfl) (by decide) z00 ?_
            refine ev_wide (k' := k + 1) (n' := n + 6) (Nat.le_refl _) (by omega) (by omega) ?_
            exact ev_throw (ev_dt dt_PT_term_0 17 rfl) (ev_dt dt_PT_term_0 18 rfl) (ev_dt dt_PT_term_0 19 rfl) (ev_dt dt_PT_term_0 20 rfl) (ev_dt dt_PT_term_0 21 rfl) rfl th_PT_139_107 rfl (k1 (Or.inr (Or.inr ⟨h3, hnode⟩)) _ (hP.ex hs) hs.up (cF.up (Or.inr hs.1)) ev_up_s)
      · refine ev_if_eqT (tgt := 34) (ev_dt dt_PT_term_0 9 rfl) (by decide) z00 ?_
        refine ev_wide (k' := k + 1) (n' := n + 6) (Nat.le_refl _) (by omega) (by omega) ?_
        exact ev_throw (ev_dt dt_PT_term_0 17 rfl) (ev_dt dt_PT_term_0 18 rfl) (ev_dt dt_PT_term_0 19 rfl) (ev_dt dt_PT_term_0 20 rfl) (ev_dt dt_PT_term_0 21 rfl) rfl th_PT_139_107 rfl (k1 (Or.inr (Or.inl hnode)) _ (hP.ex hs) hs.up (cF.up (Or.inr hs.1)) ev_up_s)
end C17
