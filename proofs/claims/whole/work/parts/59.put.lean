/-! The reduced form of a node is put into the row of numbers (written by gen_c10.py over walk.py). -/
section C10
variable {E : ev_E} {d : Nat} {h : ev_h} {sz k n : Nat} {Q : ev_Q}
theorem ev_nd_cols {M : ev_M} {pc pc' ix : Nat} {ls : List (Option Value)} {st : List Value} {N : nod} {ed : Nat → Nat → Int32} {zs : Nat → Nat} {cs : Nat → Int32} {ad : Nat → Nat} {i : Nat} (hd : ev_d M pc (.getfield ix) 3 pc') (g6 : ev_gs M.1.cls ix 6 6) (g7 : ev_gs M.1.cls ix 7 5) (g8 : ev_gs M.1.cls ix 8 6) (g9 : ev_gs M.1.cls ix 9 5) (hN : NdAt E N ed zs cs ad i h) (kk : Ev E M d pc' ls (.int (cs i) :: st) h sz k n Q) : Ev E M d pc ls (.ref (ad i) :: st) h sz k n Q := by
  rcases hN with ⟨hk, hc, ho⟩ | ⟨hk, hc, ho, -⟩ | ⟨hk, hc, ho, -⟩ | ⟨hk, -, -, -, ho⟩
  · exact ev_get hd g6 ho rfl kk
  · exact ev_get hd g7 ho rfl kk
  · exact ev_get hd g8 ho rfl kk
  · exact ev_get hd g9 ho rfl kk
theorem ev_nd_size {M : ev_M} {pc pc' ix : Nat} {ls : List (Option Value)} {st : List Value} {N : nod} {ed : Nat → Nat → Int32} {zs : Nat → Nat} {cs : Nat → Int32} {ad : Nat → Nat} {i : Nat} (hd : ev_d M pc (.getfield ix) 3 pc') (g6 : ev_gs M.1.cls ix 6 5) (g7 : ev_gs M.1.cls ix 7 4) (g8 : ev_gs M.1.cls ix 8 5) (g9 : ev_gs M.1.cls ix 9 4) (hN : NdAt E N ed zs cs ad i h) (kk : Ev E M d pc' ls (.int (nI (zs i)) :: st) h sz k n Q) : Ev E M d pc ls (.ref (ad i) :: st) h sz k n Q := by
  rcases hN with ⟨hk, hc, ho⟩ | ⟨hk, hc, ho, -⟩ | ⟨hk, hc, ho, -⟩ | ⟨hk, -, -, -, ho⟩
  · exact ev_get hd g6 ho rfl kk
  · exact ev_get hd g7 ho rfl kk
  · exact ev_get hd g8 ho rfl kk
  · exact ev_get hd g9 ho rfl kk
theorem ev_nd_numb {M : ev_M} {pc pc' ix : Nat} {ls : List (Option Value)} {st : List Value} {N : nod} {ed : Nat → Nat → Int32} {zs : Nat → Nat} {cs : Nat → Int32} {ad : Nat → Nat} {i : Nat} (hd : ev_d M pc (.getfield ix) 3 pc') (g6 : ev_gs M.1.cls ix 6 4) (g7 : ev_gs M.1.cls ix 7 3) (g8 : ev_gs M.1.cls ix 8 4) (g9 : ev_gs M.1.cls ix 9 3) (hN : NdAt E N ed zs cs ad i h) (kk : Ev E M d pc' ls (.int (nI i) :: st) h sz k n Q) : Ev E M d pc ls (.ref (ad i) :: st) h sz k n Q := by
  rcases hN with ⟨hk, hc, ho⟩ | ⟨hk, hc, ho, -⟩ | ⟨hk, hc, ho, -⟩ | ⟨hk, -, -, -, ho⟩
  · exact ev_get hd g6 ho rfl kk
  · exact ev_get hd g7 ho rfl kk
  · exact ev_get hd g8 ho rfl kk
  · exact ev_get hd g9 ho rfl kk
theorem ev_nd_kind {M : ev_M} {pc pc' ix : Nat} {ls : List (Option Value)} {st : List Value} {N : nod} {ed : Nat → Nat → Int32} {zs : Nat → Nat} {cs : Nat → Int32} {ad : Nat → Nat} {i : Nat} (hd : ev_d M pc (.getfield ix) 3 pc') (g6 : ev_gs M.1.cls ix 6 3) (g7 : ev_gs M.1.cls ix 7 2) (g8 : ev_gs M.1.cls ix 8 3) (g9 : ev_gs M.1.cls ix 9 2) (hN : NdAt E N ed zs cs ad i h) (kk : Ev E M d pc' ls (.int (nI (nK N i)) :: st) h sz k n Q) : Ev E M d pc ls (.ref (ad i) :: st) h sz k n Q := by
  rcases hN with ⟨hk, hc, ho⟩ | ⟨hk, hc, ho, -⟩ | ⟨hk, hc, ho, -⟩ | ⟨hk, -, -, -, ho⟩
  · exact ev_get hd g6 ho rfl kk
  · exact ev_get hd g7 ho rfl (hk ▸ kk)
  · exact ev_get hd g8 ho rfl (hk ▸ kk)
  · exact ev_get hd g9 ho rfl kk
theorem t_putOwn_6 {N : nod} {zs : Nat → Nat} {cs : Nat → Int32} {ad : Nat → Nat} {i : Nat} {b s : Nat} {f : Nat → Int32} (hK : nK N i < 4) (hs : s + 2 ≤ 160) (ho : h (ad i) = some (oB 6 [.int (nA N i), .int (if nK N i = 2 then nA N i else nB N i), .int (nI (nC N i)), .int (nI (nK N i)), .int (nI i), .int (nI (zs i)), .int (cs i)])) (hne : ad i ≠ b) (hb : h b = some (iA E 160 f)) (kk : ∀ f', (∀ z, z < s → f' z = f z) → sg f' s (if nK N i < 2 then ([] : List Int32) else if nK N i = 2 then [nA N i] else if nK N i = 3 then [nA N i, nB N i] else [nI i]) → Q (.returned (some (.int (nI (s + ((if nK N i < 2 then ([] : List Int32) else if nK N i = 2 then [nA N i] else if nK N i = 3 then [nA N i, nB N i] else [nI i])).length))))) (ev_up h b (iA E 160 f')) sz k n) : Ev E m_ValueOrder_putOwn d 0 [some (.ref (ad i)), some (.ref b), some (.int (nI s))] [] h sz k n Q := by
  obtain hk | hk | hk | hk : nK N i = 0 ∨ nK N i = 1 ∨ nK N i = 2 ∨ nK N i = 3 := by omega
  · refine ev_aload_0 (ev_dt dt_ValueOrder_putOwn_0 0 rfl) ?_
    refine ev_get (ev_dt dt_ValueOrder_putOwn_0 1 rfl) g_ValueOrder_18_6 ho rfl ?_
    refine ev_if_eqT (tgt := 15) (ev_dt dt_ValueOrder_putOwn_0 2 rfl) (by decide) (by rw [hk] <;> decide +kernel) ?_
    refine ev_iload_2 (ev_dt dt_ValueOrder_putOwn_0 7 rfl) ?_
    refine ev_ireturn (ev_dt dt_ValueOrder_putOwn_0 8 rfl) rfl rfl ?_
    have hr : (if nK N i < 2 then ([] : List Int32) else if nK N i = 2 then [nA N i] else if nK N i = 3 then [nA N i, nB N i] else [nI i]) = [] := by simp [hk]
    have k2 := kk f (fun _ _ => rfl) (by rw [hr]; trivial)
    rw [ev_up_self hb, hr] at k2
    exact k2
  · refine ev_aload_0 (ev_dt dt_ValueOrder_putOwn_0 0 rfl) ?_
    refine ev_get (ev_dt dt_ValueOrder_putOwn_0 1 rfl) g_ValueOrder_18_6 ho rfl ?_
    refine ev_if_eqF (tgt := 15) (ev_dt dt_ValueOrder_putOwn_0 2 rfl) (by decide) (by rw [hk] <;> decide +kernel) ?_
    refine ev_aload_0 (ev_dt dt_ValueOrder_putOwn_0 3 rfl) ?_
    refine ev_get (ev_dt dt_ValueOrder_putOwn_0 4 rfl) g_ValueOrder_18_6 ho rfl ?_
    refine ev_ic1 (ev_dt dt_ValueOrder_putOwn_0 5 rfl) ?_
    refine ev_icmp_neF (tgt := 17) (ev_dt dt_ValueOrder_putOwn_0 6 rfl) (by decide) (by rw [hk] <;> decide +kernel) ?_
    refine ev_iload_2 (ev_dt dt_ValueOrder_putOwn_0 7 rfl) ?_
    refine ev_ireturn (ev_dt dt_ValueOrder_putOwn_0 8 rfl) rfl rfl ?_
    have hr : (if nK N i < 2 then ([] : List Int32) else if nK N i = 2 then [nA N i] else if nK N i = 3 then [nA N i, nB N i] else [nI i]) = [] := by simp [hk]
    have k2 := kk f (fun _ _ => rfl) (by rw [hr]; trivial)
    rw [ev_up_self hb, hr] at k2
    exact k2
  · refine ev_aload_0 (ev_dt dt_ValueOrder_putOwn_0 0 rfl) ?_
    refine ev_get (ev_dt dt_ValueOrder_putOwn_0 1 rfl) g_ValueOrder_18_6 ho rfl ?_
    refine ev_if_eqF (tgt := 15) (ev_dt dt_ValueOrder_putOwn_0 2 rfl) (by decide) (by rw [hk] <;> decide +kernel) ?_
    refine ev_aload_0 (ev_dt dt_ValueOrder_putOwn_0 3 rfl) ?_
    refine ev_get (ev_dt dt_ValueOrder_putOwn_0 4 rfl) g_ValueOrder_18_6 ho rfl ?_
    refine ev_ic1 (ev_dt dt_ValueOrder_putOwn_0 5 rfl) ?_
    refine ev_icmp_neT (tgt := 17) (ev_dt dt_ValueOrder_putOwn_0 6 rfl) (by decide) (by rw [hk] <;> decide +kernel) ?_
    refine ev_aload_1 (ev_dt dt_ValueOrder_putOwn_0 9 rfl) ?_
    refine ev_iload_2 (ev_dt dt_ValueOrder_putOwn_0 10 rfl) ?_
    refine ev_aload_0 (ev_dt dt_ValueOrder_putOwn_0 11 rfl) ?_
    refine ev_get (ev_dt dt_ValueOrder_putOwn_0 12 rfl) g_ValueOrder_9_6 ho rfl ?_
    refine ev_iast (ev_dt dt_ValueOrder_putOwn_0 13 rfl) hb (by omega) (by decide) ?_
    refine ev_aload_0 (ev_dt dt_ValueOrder_putOwn_0 14 rfl) ?_
    refine ev_get (ev_dt dt_ValueOrder_putOwn_0 15 rfl) g_ValueOrder_18_6 ((ev_up_n hne).trans ho) rfl ?_
    refine ev_ic2 (ev_dt dt_ValueOrder_putOwn_0 16 rfl) ?_
    refine ev_icmp_neF (tgt := 36) (ev_dt dt_ValueOrder_putOwn_0 17 rfl) (by decide) (by rw [hk] <;> decide +kernel) ?_
    refine ev_iload_2 (ev_dt dt_ValueOrder_putOwn_0 18 rfl) ?_
    refine ev_ic1 (ev_dt dt_ValueOrder_putOwn_0 19 rfl) ?_
    refine ev_addn (ev_dt dt_ValueOrder_putOwn_0 20 rfl) ?_
    refine ev_ireturn (ev_dt dt_ValueOrder_putOwn_0 21 rfl) rfl rfl ?_
    have hr : (if nK N i < 2 then ([] : List Int32) else if nK N i = 2 then [nA N i] else if nK N i = 3 then [nA N i, nB N i] else [nI i]) = [nA N i] := by simp [hk]
    have k2 := kk (upd f s (nA N i)) (fun z hz => pk_un (by omega)) (by rw [hr]; exact ⟨pk_us, trivial⟩)
    rw [hr] at k2
    exact k2
  · refine ev_aload_0 (ev_dt dt_ValueOrder_putOwn_0 0 rfl) ?_
    refine ev_get (ev_dt dt_ValueOrder_putOwn_0 1 rfl) g_ValueOrder_18_6 ho rfl ?_
    refine ev_if_eqF (tgt := 15) (ev_dt dt_ValueOrder_putOwn_0 2 rfl) (by decide) (by rw [hk] <;> decide +kernel) ?_
    refine ev_aload_0 (ev_dt dt_ValueOrder_putOwn_0 3 rfl) ?_
    refine ev_get (ev_dt dt_ValueOrder_putOwn_0 4 rfl) g_ValueOrder_18_6 ho rfl ?_
    refine ev_ic1 (ev_dt dt_ValueOrder_putOwn_0 5 rfl) ?_
    refine ev_icmp_neT (tgt := 17) (ev_dt dt_ValueOrder_putOwn_0 6 rfl) (by decide) (by rw [hk] <;> decide +kernel) ?_
    refine ev_aload_1 (ev_dt dt_ValueOrder_putOwn_0 9 rfl) ?_
    refine ev_iload_2 (ev_dt dt_ValueOrder_putOwn_0 10 rfl) ?_
    refine ev_aload_0 (ev_dt dt_ValueOrder_putOwn_0 11 rfl) ?_
    refine ev_get (ev_dt dt_ValueOrder_putOwn_0 12 rfl) g_ValueOrder_9_6 ho rfl ?_
    refine ev_iast (ev_dt dt_ValueOrder_putOwn_0 13 rfl) hb (by omega) (by decide) ?_
    refine ev_aload_0 (ev_dt dt_ValueOrder_putOwn_0 14 rfl) ?_
    refine ev_get (ev_dt dt_ValueOrder_putOwn_0 15 rfl) g_ValueOrder_18_6 ((ev_up_n hne).trans ho) rfl ?_
    refine ev_ic2 (ev_dt dt_ValueOrder_putOwn_0 16 rfl) ?_
    refine ev_icmp_neT (tgt := 36) (ev_dt dt_ValueOrder_putOwn_0 17 rfl) (by decide) (by rw [hk] <;> decide +kernel) ?_
    refine ev_aload_1 (ev_dt dt_ValueOrder_putOwn_0 22 rfl) ?_
    refine ev_iload_2 (ev_dt dt_ValueOrder_putOwn_0 23 rfl) ?_
    refine ev_ic1 (ev_dt dt_ValueOrder_putOwn_0 24 rfl) ?_
    refine ev_addn (ev_dt dt_ValueOrder_putOwn_0 25 rfl) ?_
    refine ev_aload_0 (ev_dt dt_ValueOrder_putOwn_0 26 rfl) ?_
    refine ev_get (ev_dt dt_ValueOrder_putOwn_0 27 rfl) g_ValueOrder_15_6 ((ev_up_n hne).trans ho) rfl ?_
    refine ev_iast (ev_dt dt_ValueOrder_putOwn_0 28 rfl) ev_up_s (by omega) (by decide) ?_
    refine ev_iload_2 (ev_dt dt_ValueOrder_putOwn_0 29 rfl) ?_
    refine ev_ic2 (ev_dt dt_ValueOrder_putOwn_0 30 rfl) ?_
    refine ev_addn (ev_dt dt_ValueOrder_putOwn_0 31 rfl) ?_
    refine ev_ireturn (ev_dt dt_ValueOrder_putOwn_0 32 rfl) rfl rfl ?_
    have hr : (if nK N i < 2 then ([] : List Int32) else if nK N i = 2 then [nA N i] else if nK N i = 3 then [nA N i, nB N i] else [nI i]) = [nA N i, nB N i] := by simp [hk]
    rw [ev_up_up]
    rw [if_neg (by omega)]
    have k2 := kk (upd (upd f s (nA N i)) (s + 1) (nB N i)) (fun z hz => by rw [pk_un (by omega), pk_un (by omega)]) (by rw [hr]; exact ⟨by rw [pk_un (by omega), pk_us], pk_us, trivial⟩)
    rw [hr] at k2
    exact k2
theorem t_putOwn_7 {N : nod} {zs : Nat → Nat} {cs : Nat → Int32} {ad : Nat → Nat} {i : Nat} {b s : Nat} {f : Nat → Int32} (hK : nK N i = 4) (hs : s + 2 ≤ 160) (ho : h (ad i) = some (oB 7 [.ref (ad i + 1), .int (nI (nC N i)), .int (nI 4), .int (nI i), .int (nI (zs i)), .int (cs i)])) (hne : ad i ≠ b) (hb : h b = some (iA E 160 f)) (kk : ∀ f', (∀ z, z < s → f' z = f z) → sg f' s (if nK N i < 2 then ([] : List Int32) else if nK N i = 2 then [nA N i] else if nK N i = 3 then [nA N i, nB N i] else [nI i]) → Q (.returned (some (.int (nI (s + ((if nK N i < 2 then ([] : List Int32) else if nK N i = 2 then [nA N i] else if nK N i = 3 then [nA N i, nB N i] else [nI i])).length))))) (ev_up h b (iA E 160 f')) sz k n) : Ev E m_Order_putOwn d 0 [some (.ref (ad i)), some (.ref b), some (.int (nI s))] [] h sz k n Q := by
  refine ev_aload_1 (ev_dt dt_Order_putOwn_0 0 rfl) ?_
  refine ev_iload_2 (ev_dt dt_Order_putOwn_0 1 rfl) ?_
  refine ev_aload_0 (ev_dt dt_Order_putOwn_0 2 rfl) ?_
  refine ev_get (ev_dt dt_Order_putOwn_0 3 rfl) g_Order_26_7 ho rfl ?_
  refine ev_iast (ev_dt dt_Order_putOwn_0 4 rfl) hb (by omega) (by decide) ?_
  refine ev_iload_2 (ev_dt dt_Order_putOwn_0 5 rfl) ?_
  refine ev_ic1 (ev_dt dt_Order_putOwn_0 6 rfl) ?_
  refine ev_addn (ev_dt dt_Order_putOwn_0 7 rfl) ?_
  have hr : (if nK N i < 2 then ([] : List Int32) else if nK N i = 2 then [nA N i] else if nK N i = 3 then [nA N i, nB N i] else [nI i]) = [nI i] := by simp [hK]
  have k2 := kk (upd f s (nI i)) (fun z hz => pk_un (by omega)) (by rw [hr]; exact ⟨pk_us, trivial⟩)
  rw [hr] at k2
  exact ev_ireturn (ev_dt dt_Order_putOwn_0 8 rfl) rfl rfl k2
theorem t_putOwn_8 {N : nod} {zs : Nat → Nat} {cs : Nat → Int32} {ad : Nat → Nat} {i : Nat} {b s : Nat} {f : Nat → Int32} (hK : nK N i = 5) (hs : s + 2 ≤ 160) (ho : h (ad i) = some (oB 8 [.ref (ad i + 1), .ref (ad i + 2), .int (nI (nC N i)), .int (nI 5), .int (nI i), .int (nI (zs i)), .int (cs i)])) (hne : ad i ≠ b) (hb : h b = some (iA E 160 f)) (kk : ∀ f', (∀ z, z < s → f' z = f z) → sg f' s (if nK N i < 2 then ([] : List Int32) else if nK N i = 2 then [nA N i] else if nK N i = 3 then [nA N i, nB N i] else [nI i]) → Q (.returned (some (.int (nI (s + ((if nK N i < 2 then ([] : List Int32) else if nK N i = 2 then [nA N i] else if nK N i = 3 then [nA N i, nB N i] else [nI i])).length))))) (ev_up h b (iA E 160 f')) sz k n) : Ev E m_Order_putOwn d 0 [some (.ref (ad i)), some (.ref b), some (.int (nI s))] [] h sz k n Q := by
  refine ev_aload_1 (ev_dt dt_Order_putOwn_0 0 rfl) ?_
  refine ev_iload_2 (ev_dt dt_Order_putOwn_0 1 rfl) ?_
  refine ev_aload_0 (ev_dt dt_Order_putOwn_0 2 rfl) ?_
  refine ev_get (ev_dt dt_Order_putOwn_0 3 rfl) g_Order_26_8 ho rfl ?_
  refine ev_iast (ev_dt dt_Order_putOwn_0 4 rfl) hb (by omega) (by decide) ?_
  refine ev_iload_2 (ev_dt dt_Order_putOwn_0 5 rfl) ?_
  refine ev_ic1 (ev_dt dt_Order_putOwn_0 6 rfl) ?_
  refine ev_addn (ev_dt dt_Order_putOwn_0 7 rfl) ?_
  have hr : (if nK N i < 2 then ([] : List Int32) else if nK N i = 2 then [nA N i] else if nK N i = 3 then [nA N i, nB N i] else [nI i]) = [nI i] := by simp [hK]
  have k2 := kk (upd f s (nI i)) (fun z hz => pk_un (by omega)) (by rw [hr]; exact ⟨pk_us, trivial⟩)
  rw [hr] at k2
  exact ev_ireturn (ev_dt dt_Order_putOwn_0 8 rfl) rfl rfl k2
theorem t_Order_put_6 {N : nod} {zs : Nat → Nat} {cs : Nat → Int32} {ad : Nat → Nat} {i : Nat} {b s : Nat} {f : Nat → Int32} (hK : nK N i < 4) (hs : s + 4 ≤ 160) (ho : h (ad i) = some (oB 6 [.int (nA N i), .int (if nK N i = 2 then nA N i else nB N i), .int (nI (nC N i)), .int (nI (nK N i)), .int (nI i), .int (nI (zs i)), .int (cs i)])) (hne : ad i ≠ b) (hb : h b = some (iA E 160 f)) (kk : ∀ f', (∀ z, z < s → f' z = f z) → sg f' s (rf N cs i) → Q (.returned (some (.int (nI (s + (rf N cs i).length))))) (ev_up h b (iA E 160 f')) sz k n) : Ev E m_Order_putReduced (d + 1) 0 [some (.ref (ad i)), some (.ref b), some (.int (nI s))] [] h sz k n Q := by
  refine ev_aload_1 (ev_dt dt_Order_putReduced_0 0 rfl) ?_
  refine ev_iload_2 (ev_dt dt_Order_putReduced_0 1 rfl) ?_
  refine ev_aload_0 (ev_dt dt_Order_putReduced_0 2 rfl) ?_
  refine ev_get (ev_dt dt_Order_putReduced_0 3 rfl) g_Order_19_6 ho rfl ?_
  refine ev_iast (ev_dt dt_Order_putReduced_0 4 rfl) hb (by omega) (by decide) ?_
  refine ev_aload_1 (ev_dt dt_Order_putReduced_0 5 rfl) ?_
  refine ev_iload_2 (ev_dt dt_Order_putReduced_0 6 rfl) ?_
  refine ev_ic1 (ev_dt dt_Order_putReduced_0 7 rfl) ?_
  refine ev_addn (ev_dt dt_Order_putReduced_0 8 rfl) ?_
  refine ev_aload_0 (ev_dt dt_Order_putReduced_0 9 rfl) ?_
  refine ev_get (ev_dt dt_Order_putReduced_0 10 rfl) g_Order_9_6 ((ev_up_n hne).trans ho) rfl ?_
  refine ev_iast (ev_dt dt_Order_putReduced_0 11 rfl) ev_up_s (by omega) (by decide) ?_
  refine ev_aload_0 (ev_dt dt_Order_putReduced_0 12 rfl) ?_
  refine ev_aload_1 (ev_dt dt_Order_putReduced_0 13 rfl) ?_
  refine ev_iload_2 (ev_dt dt_Order_putReduced_0 14 rfl) ?_
  refine ev_ic2 (ev_dt dt_Order_putReduced_0 15 rfl) ?_
  refine ev_addn (ev_dt dt_Order_putReduced_0 16 rfl) ?_
  rw [ev_up_up]
  have ho' : ev_up h b (iA E 160 (upd (upd f s (nI (nK N i))) (s + 1) (nI (nC N i)))) (ad i) = h (ad i) := ev_up_n hne
  rw [ho] at ho'
  refine ev_callU (ev_dt dt_Order_putReduced_0 17 rfl) u_Order_22_6 ho' [.ref b, .int (nI (s + 2))] rfl np_ValueOrder_putOwn rfl (ev_lk_of (j := 0) rfl rfl) (t_putOwn_6 hK (by omega) ho' hne ev_up_s (fun f' hf hg => ev_r1 ?_))
  rw [ev_up_up]
  have hr : rf N cs i = nI (nK N i) :: nI (nC N i) :: (if nK N i < 2 then ([] : List Int32) else if nK N i = 2 then [nA N i] else if nK N i = 3 then [nA N i, nB N i] else [nI i]) := rf_o (by omega)
  have k2 := kk f' (fun z hz => by rw [hf z (by omega), pk_un (by omega), pk_un (by omega)]) (by rw [hr]; exact ⟨by rw [hf s (by omega), pk_un (by omega), pk_us], by rw [hf (s + 1) (by omega), pk_us], hg⟩)
  rw [hr, show s + (nI (nK N i) :: nI (nC N i) :: (if nK N i < 2 then ([] : List Int32) else if nK N i = 2 then [nA N i] else if nK N i = 3 then [nA N i, nB N i] else [nI i])).length = s + 2 + ((if nK N i < 2 then ([] : List Int32) else if nK N i = 2 then [nA N i] else if nK N i = 3 then [nA N i, nB N i] else [nI i])).length by simp; omega] at k2
  exact ev_ireturn (ev_dt dt_Order_putReduced_0 18 rfl) rfl rfl k2
theorem t_Order_put_7 {N : nod} {zs : Nat → Nat} {cs : Nat → Int32} {ad : Nat → Nat} {i : Nat} {b s : Nat} {f : Nat → Int32} (hK : nK N i = 4) (hs : s + 4 ≤ 160) (ho : h (ad i) = some (oB 7 [.ref (ad i + 1), .int (nI (nC N i)), .int (nI 4), .int (nI i), .int (nI (zs i)), .int (cs i)])) (hne : ad i ≠ b) (hb : h b = some (iA E 160 f)) (kk : ∀ f', (∀ z, z < s → f' z = f z) → sg f' s (rf N cs i) → Q (.returned (some (.int (nI (s + (rf N cs i).length))))) (ev_up h b (iA E 160 f')) sz k n) : Ev E m_Order_putReduced (d + 1) 0 [some (.ref (ad i)), some (.ref b), some (.int (nI s))] [] h sz k n Q := by
  refine ev_aload_1 (ev_dt dt_Order_putReduced_0 0 rfl) ?_
  refine ev_iload_2 (ev_dt dt_Order_putReduced_0 1 rfl) ?_
  refine ev_aload_0 (ev_dt dt_Order_putReduced_0 2 rfl) ?_
  refine ev_get (ev_dt dt_Order_putReduced_0 3 rfl) g_Order_19_7 ho rfl ?_
  refine ev_iast (ev_dt dt_Order_putReduced_0 4 rfl) hb (by omega) (by decide) ?_
  refine ev_aload_1 (ev_dt dt_Order_putReduced_0 5 rfl) ?_
  refine ev_iload_2 (ev_dt dt_Order_putReduced_0 6 rfl) ?_
  refine ev_ic1 (ev_dt dt_Order_putReduced_0 7 rfl) ?_
  refine ev_addn (ev_dt dt_Order_putReduced_0 8 rfl) ?_
  refine ev_aload_0 (ev_dt dt_Order_putReduced_0 9 rfl) ?_
  refine ev_get (ev_dt dt_Order_putReduced_0 10 rfl) g_Order_9_7 ((ev_up_n hne).trans ho) rfl ?_
  refine ev_iast (ev_dt dt_Order_putReduced_0 11 rfl) ev_up_s (by omega) (by decide) ?_
  refine ev_aload_0 (ev_dt dt_Order_putReduced_0 12 rfl) ?_
  refine ev_aload_1 (ev_dt dt_Order_putReduced_0 13 rfl) ?_
  refine ev_iload_2 (ev_dt dt_Order_putReduced_0 14 rfl) ?_
  refine ev_ic2 (ev_dt dt_Order_putReduced_0 15 rfl) ?_
  refine ev_addn (ev_dt dt_Order_putReduced_0 16 rfl) ?_
  rw [ev_up_up]
  have ho' : ev_up h b (iA E 160 (upd (upd f s (nI 4)) (s + 1) (nI (nC N i)))) (ad i) = h (ad i) := ev_up_n hne
  rw [ho] at ho'
  refine ev_callV (ev_dt dt_Order_putReduced_0 17 rfl) v_Order_22_7 ho' [.ref b, .int (nI (s + 2))] rfl np_Order_putOwn rfl (ev_lk_of (j := 0) rfl rfl) (t_putOwn_7 hK (by omega) ho' hne ev_up_s (fun f' hf hg => ev_r1 ?_))
  rw [ev_up_up]
  have hr : rf N cs i = nI (nK N i) :: nI (nC N i) :: (if nK N i < 2 then ([] : List Int32) else if nK N i = 2 then [nA N i] else if nK N i = 3 then [nA N i, nB N i] else [nI i]) := rf_o (by omega)
  have k2 := kk f' (fun z hz => by rw [hf z (by omega), pk_un (by omega), pk_un (by omega)]) (by rw [hr]; exact ⟨by rw [hf s (by omega), pk_un (by omega), pk_us, hK], by rw [hf (s + 1) (by omega), pk_us], hg⟩)
  rw [hr, show s + (nI (nK N i) :: nI (nC N i) :: (if nK N i < 2 then ([] : List Int32) else if nK N i = 2 then [nA N i] else if nK N i = 3 then [nA N i, nB N i] else [nI i])).length = s + 2 + ((if nK N i < 2 then ([] : List Int32) else if nK N i = 2 then [nA N i] else if nK N i = 3 then [nA N i, nB N i] else [nI i])).length by simp; omega] at k2
  exact ev_ireturn (ev_dt dt_Order_putReduced_0 18 rfl) rfl rfl k2
theorem t_Order_put_8 {N : nod} {zs : Nat → Nat} {cs : Nat → Int32} {ad : Nat → Nat} {i : Nat} {b s : Nat} {f : Nat → Int32} (hK : nK N i = 5) (hs : s + 4 ≤ 160) (ho : h (ad i) = some (oB 8 [.ref (ad i + 1), .ref (ad i + 2), .int (nI (nC N i)), .int (nI 5), .int (nI i), .int (nI (zs i)), .int (cs i)])) (hne : ad i ≠ b) (hb : h b = some (iA E 160 f)) (kk : ∀ f', (∀ z, z < s → f' z = f z) → sg f' s (rf N cs i) → Q (.returned (some (.int (nI (s + (rf N cs i).length))))) (ev_up h b (iA E 160 f')) sz k n) : Ev E m_Order_putReduced (d + 1) 0 [some (.ref (ad i)), some (.ref b), some (.int (nI s))] [] h sz k n Q := by
  refine ev_aload_1 (ev_dt dt_Order_putReduced_0 0 rfl) ?_
  refine ev_iload_2 (ev_dt dt_Order_putReduced_0 1 rfl) ?_
  refine ev_aload_0 (ev_dt dt_Order_putReduced_0 2 rfl) ?_
  refine ev_get (ev_dt dt_Order_putReduced_0 3 rfl) g_Order_19_8 ho rfl ?_
  refine ev_iast (ev_dt dt_Order_putReduced_0 4 rfl) hb (by omega) (by decide) ?_
  refine ev_aload_1 (ev_dt dt_Order_putReduced_0 5 rfl) ?_
  refine ev_iload_2 (ev_dt dt_Order_putReduced_0 6 rfl) ?_
  refine ev_ic1 (ev_dt dt_Order_putReduced_0 7 rfl) ?_
  refine ev_addn (ev_dt dt_Order_putReduced_0 8 rfl) ?_
  refine ev_aload_0 (ev_dt dt_Order_putReduced_0 9 rfl) ?_
  refine ev_get (ev_dt dt_Order_putReduced_0 10 rfl) g_Order_9_8 ((ev_up_n hne).trans ho) rfl ?_
  refine ev_iast (ev_dt dt_Order_putReduced_0 11 rfl) ev_up_s (by omega) (by decide) ?_
  refine ev_aload_0 (ev_dt dt_Order_putReduced_0 12 rfl) ?_
  refine ev_aload_1 (ev_dt dt_Order_putReduced_0 13 rfl) ?_
  refine ev_iload_2 (ev_dt dt_Order_putReduced_0 14 rfl) ?_
  refine ev_ic2 (ev_dt dt_Order_putReduced_0 15 rfl) ?_
  refine ev_addn (ev_dt dt_Order_putReduced_0 16 rfl) ?_
  rw [ev_up_up]
  have ho' : ev_up h b (iA E 160 (upd (upd f s (nI 5)) (s + 1) (nI (nC N i)))) (ad i) = h (ad i) := ev_up_n hne
  rw [ho] at ho'
  refine ev_callV (ev_dt dt_Order_putReduced_0 17 rfl) v_Order_22_8 ho' [.ref b, .int (nI (s + 2))] rfl np_Order_putOwn rfl (ev_lk_of (j := 0) rfl rfl) (t_putOwn_8 hK (by omega) ho' hne ev_up_s (fun f' hf hg => ev_r1 ?_))
  rw [ev_up_up]
  have hr : rf N cs i = nI (nK N i) :: nI (nC N i) :: (if nK N i < 2 then ([] : List Int32) else if nK N i = 2 then [nA N i] else if nK N i = 3 then [nA N i, nB N i] else [nI i]) := rf_o (by omega)
  have k2 := kk f' (fun z hz => by rw [hf z (by omega), pk_un (by omega), pk_un (by omega)]) (by rw [hr]; exact ⟨by rw [hf s (by omega), pk_un (by omega), pk_us, hK], by rw [hf (s + 1) (by omega), pk_us], hg⟩)
  rw [hr, show s + (nI (nK N i) :: nI (nC N i) :: (if nK N i < 2 then ([] : List Int32) else if nK N i = 2 then [nA N i] else if nK N i = 3 then [nA N i, nB N i] else [nI i])).length = s + 2 + ((if nK N i < 2 then ([] : List Int32) else if nK N i = 2 then [nA N i] else if nK N i = 3 then [nA N i, nB N i] else [nI i])).length by simp; omega] at k2
  exact ev_ireturn (ev_dt dt_Order_putReduced_0 18 rfl) rfl rfl k2
theorem t_pDecides {N : nod} {ed : Nat → Nat → Int32} {zs : Nat → Nat} {cs : Nat → Int32} {ad : Nat → Nat} {i : Nat} (h9 : nK N i ≤ 9) (ho : h (ad i) = some (oB 9 [.ref (ad (nL N i)), .ref (ad (nQ N i)), .int (nI (nK N i)), .int (nI i), .int (nI (zs i)), .int (cs i)])) (hP : NdAt E N ed zs cs ad (nL N i) h) (hQ : NdAt E N ed zs cs ad (nQ N i) h) (kt : nK N i = 7 ∧ cs (nQ N i) &&& (cs (nL N i) ^^^ (-1)) = nI 0 → Q (.returned (some (.int (nI 1)))) h sz k n) (kf : ¬ (nK N i = 7 ∧ cs (nQ N i) &&& (cs (nL N i) ^^^ (-1)) = nI 0) → Q (.returned (some (.int (nI 0)))) h sz k n) : Ev E m_Term_pDecidesAlone d 0 [some (.ref (ad i))] [] h sz k n Q := by
  refine ev_aload_0 (ev_dt dt_Term_pDecidesAlone_0 0 rfl) ?_
  refine ev_get (ev_dt dt_Term_pDecidesAlone_0 1 rfl) g_Term_33_9 ho rfl ?_
  refine ev_bipush (ev_dt dt_Term_pDecidesAlone_0 2 rfl) bi_7 ?_
  refine ev_icmp_ne (tgt := 33) (ev_dt dt_Term_pDecidesAlone_0 3 rfl) (by decide) (fun h7 => ?_) (fun h7 => ?_)
  · refine ev_ic0 (ev_dt dt_Term_pDecidesAlone_0 16 rfl) ?_
    exact ev_ireturn (ev_dt dt_Term_pDecidesAlone_0 17 rfl) rfl bz0 (kf (fun e => h7 (by rw [e.1])))
  · refine ev_aload_0 (ev_dt dt_Term_pDecidesAlone_0 4 rfl) ?_
    refine ev_get (ev_dt dt_Term_pDecidesAlone_0 5 rfl) g_Term_23_9 ho rfl ?_
    refine ev_nd_cols (ev_dt dt_Term_pDecidesAlone_0 6 rfl) g_Term_9_6 g_Term_9_7 g_Term_9_8 g_Term_9_9 hQ ?_
    refine ev_aload_0 (ev_dt dt_Term_pDecidesAlone_0 7 rfl) ?_
    refine ev_get (ev_dt dt_Term_pDecidesAlone_0 8 rfl) g_Term_19_9 ho rfl ?_
    refine ev_nd_cols (ev_dt dt_Term_pDecidesAlone_0 9 rfl) g_Term_9_6 g_Term_9_7 g_Term_9_8 g_Term_9_9 hP ?_
    refine ev_icm (ev_dt dt_Term_pDecidesAlone_0 10 rfl) ?_
    refine ev_ixor (ev_dt dt_Term_pDecidesAlone_0 11 rfl) rfl ?_
    refine ev_iand (ev_dt dt_Term_pDecidesAlone_0 12 rfl) rfl ?_
    have h7' : nK N i = 7 := (nI_eq (by omega) (by omega)).mp h7
    refine ev_if_ne (tgt := 33) (ev_dt dt_Term_pDecidesAlone_0 13 rfl) (by decide) (fun hz => ?_) (fun hz => ?_)
    · refine ev_ic0 (ev_dt dt_Term_pDecidesAlone_0 16 rfl) ?_
      exact ev_ireturn (ev_dt dt_Term_pDecidesAlone_0 17 rfl) rfl bz0 (kf (fun e => hz (e.2.trans nI_0)))
    · refine ev_ic1 (ev_dt dt_Term_pDecidesAlone_0 14 rfl) ?_
      refine ev_goto (tgt := 34) (ev_dt dt_Term_pDecidesAlone_0 15 rfl) (by decide) ?_
      exact ev_ireturn (ev_dt dt_Term_pDecidesAlone_0 17 rfl) rfl bz1 (kt ⟨h7', hz.trans nI_0.symm⟩)
def pM (N : nod) (i : Nat) : ev_M := if nK N i < 6 then m_Order_putReduced else m_Term_putReduced
def pL (N : nod) (i : Nat) (a b s : Nat) : List (Option Value) := if nK N i < 6 then [some (.ref a), some (.ref b), some (.int (nI s))] else [some (.ref a), some (.ref b), some (.int (nI s)), none, none]
def px : MethodName := ⟨"PreferTable$Node", "putReduced", "([II)I"⟩
/-- what a call of putReduced does -/
def pC (E : ev_E) (N : nod) (cs : Nat → Int32) (ad : Nat → Nat) (b i d s : Nat) (f : Nat → Int32) (h : ev_h) (sz k n : Nat) : Prop := ∀ Q : ev_Q, (∀ f', (∀ z, z < s → f' z = f z) → sg f' s (rf N cs i) → Q (.returned (some (.int (nI (s + (rf N cs i).length))))) (ev_up h b (iA E 160 f')) sz k n) → Ev E (pM N i) d 0 (pL N i (ad i) b s) [] h sz k n Q
theorem ev_putG {M : ev_M} {pc pc' idx b s : Nat} {f : Nat → Int32} {ls : List (Option Value)} {rest : List Value} {N : nod} {ed : Nat → Nat → Int32} {zs : Nat → Nat} {cs : Nat → Int32} {ad : Nat → Nat} {i : Nat} (hd : ev_d M pc (.invokevirtual idx) 3 pc') (w6 : ev_wU M.1.cls idx 6 px m_Order_putReduced) (w7 : ev_wU M.1.cls idx 7 px m_Order_putReduced) (w8 : ev_wU M.1.cls idx 8 px m_Order_putReduced) (w9 : ev_wU M.1.cls idx 9 px m_Term_putReduced) (hN : NdAt E N ed zs cs ad i h) (hroom : Nat.ble ((rest.map fun v => v.category).sum + 5 + 11) 64 = true)
    (ih : pC E N cs ad b i d s f h sz k n) (kk : ∀ f', (∀ z, z < s → f' z = f z) → sg f' s (rf N cs i) → Ev E M (d + 1) pc' ls (.int (nI (s + (rf N cs i).length)) :: rest) (ev_up h b (iA E 160 f')) sz k n Q) : Ev E M (d + 1) pc ls (.int (nI s) :: .ref b :: .ref (ad i) :: rest) h sz k n Q := by
  have hr3 : Nat.ble ((rest.map fun v => v.category).sum + 3 + 11) 64 = true := Nat.ble_eq_true_of_le (by have := Nat.le_of_ble_eq_true hroom; omega)
  rcases hN with ⟨hk, hc, ho⟩ | ⟨hk, hc, ho, -⟩ | ⟨hk, hc, ho, -⟩ | ⟨hk, -, -, -, ho⟩
  · unfold pC at ih
    rw [show pM N i = m_Order_putReduced from if_pos (by omega), show pL N i (ad i) b s = [some (.ref (ad i)), some (.ref b), some (.int (nI s))] from if_pos (by omega)] at ih
    exact ev_callU hd w6 ho [.ref b, .int (nI s)] rfl np_Order_putReduced hr3 (ev_lk_of (j := 0) rfl rfl) (ih _ (fun f' h1 h2 => ev_r1 (kk f' h1 h2)))
  · unfold pC at ih
    rw [show pM N i = m_Order_putReduced from if_pos (by omega), show pL N i (ad i) b s = [some (.ref (ad i)), some (.ref b), some (.int (nI s))] from if_pos (by omega)] at ih
    exact ev_callU hd w7 ho [.ref b, .int (nI s)] rfl np_Order_putReduced hr3 (ev_lk_of (j := 0) rfl rfl) (ih _ (fun f' h1 h2 => ev_r1 (kk f' h1 h2)))
  · unfold pC at ih
    rw [show pM N i = m_Order_putReduced from if_pos (by omega), show pL N i (ad i) b s = [some (.ref (ad i)), some (.ref b), some (.int (nI s))] from if_pos (by omega)] at ih
    exact ev_callU hd w8 ho [.ref b, .int (nI s)] rfl np_Order_putReduced hr3 (ev_lk_of (j := 0) rfl rfl) (ih _ (fun f' h1 h2 => ev_r1 (kk f' h1 h2)))
  · unfold pC at ih
    rw [show pM N i = m_Term_putReduced from if_neg (by omega), show pL N i (ad i) b s = [some (.ref (ad i)), some (.ref b), some (.int (nI s)), none, none] from if_neg (by omega)] at ih
    exact ev_callU hd w9 ho [.ref b, .int (nI s)] rfl np_Term_putReduced hroom (ev_lk_of (j := 2) rfl rfl) (ih _ (fun f' h1 h2 => ev_r1 (kk f' h1 h2)))
theorem t_Term_put {N : nod} {ed : Nat → Nat → Int32} {zs : Nat → Nat} {cs : Nat → Int32} {ad : Nat → Nat} {i : Nat} {b s c : Nat} {f : Nat → Int32} (hi : i < c) (h6 : 6 ≤ nK N i) (h99 : nK N i ≤ 9) (hl : nL N i < i) (hq : nQ N i < i) (hs : s + 4 * zs i ≤ 160) (ho : h (ad i) = some (oB 9 [.ref (ad (nL N i)), .ref (ad (nQ N i)), .int (nI (nK N i)), .int (nI i), .int (nI (zs i)), .int (cs i)])) (hne : ad i ≠ b) (hb : h b = some (iA E 160 f)) (hN : ∀ j, j < c → NdAt E N ed zs cs ad j h) (hadr : ∀ j, j < c → b < ad j) (hZ : okZ N zs c) (hK9 : ∀ n, n < c → nK N n ≤ 9) (hT : ∀ n, n < c → ¬ nK N n < 6 → nL N n < n ∧ nQ N n < n) (ihp : ∀ (h : ev_h) (s : Nat) (f : Nat → Int32), s + 4 * zs (nL N i) ≤ 160 → (∀ j, j < c → NdAt E N ed zs cs ad j h) → h b = some (iA E 160 f) → pC E N cs ad b (nL N i) (d + 2) s f h sz k n) (ihq : ∀ (h : ev_h) (s : Nat) (f : Nat → Int32), s + 4 * zs (nQ N i) ≤ 160 → (∀ j, j < c → NdAt E N ed zs cs ad j h) → h b = some (iA E 160 f) → pC E N cs ad b (nQ N i) (d + 2) s f h sz k n) (kk : ∀ f', (∀ z, z < s → f' z = f z) → sg f' s (rf N cs i) → Q (.returned (some (.int (nI (s + (rf N cs i).length))))) (ev_up h b (iA E 160 f')) sz k n) : Ev E m_Term_putReduced (d + 3) 0 [some (.ref (ad i)), some (.ref b), some (.int (nI s)), none, none] [] h sz k n Q := by
  have hP := hN (nL N i) (by omega)
  have hQ := hN (nQ N i) (by omega)
  have haP := hadr (nL N i) (by omega)
  have haQ := hadr (nQ N i) (by omega)
  have hzz : 4 ≤ 4 * zs i := by
    by_cases e : nK N i = 9
    · have := (hZ i hi).2.2.1 e; omega
    · have := (hZ i hi).2.2.2 h6 (by omega); omega
  have hzl : 1 + zs (nL N i) ≤ zs i := by
    by_cases e : nK N i = 9
    · have := (hZ i hi).2.2.1 e; omega
    · have := (hZ i hi).2.2.2 h6 (by omega); omega
  refine ev_aload_1 (ev_dt dt_Term_putReduced_0 0 rfl) ?_
  refine ev_iload_2 (ev_dt dt_Term_putReduced_0 1 rfl) ?_
  refine ev_aload_0 (ev_dt dt_Term_putReduced_0 2 rfl) ?_
  refine ev_get (ev_dt dt_Term_putReduced_0 3 rfl) g_Term_33_9 ho rfl ?_
  refine ev_iast (ev_dt dt_Term_putReduced_0 4 rfl) hb (by omega) (by decide) ?_
  refine ev_aload_0 (ev_dt dt_Term_putReduced_0 5 rfl) ?_
  refine ev_get (ev_dt dt_Term_putReduced_0 6 rfl) g_Term_19_9 ((ev_up_n hne).trans ho) rfl ?_
  refine ev_aload_1 (ev_dt dt_Term_putReduced_0 7 rfl) ?_
  refine ev_iload_2 (ev_dt dt_Term_putReduced_0 8 rfl) ?_
  refine ev_ic1 (ev_dt dt_Term_putReduced_0 9 rfl) ?_
  refine ev_addn (ev_dt dt_Term_putReduced_0 10 rfl) ?_
  refine ev_putG (d := d + 2) (ev_dt dt_Term_putReduced_0 11 rfl) u_Term_44_6 u_Term_44_7 u_Term_44_8 u_Term_44_9 (hP.kept (fun z q1 q2 => ev_up_n (by omega))) rfl (ihp _ (s + 1) (upd f s (nI (nK N i))) (by omega) (fun j hj => (hN j hj).kept (fun z q1 q2 => ev_up_n (by have := hadr j hj; omega))) ev_up_s) (fun f1 hf1 hg1 => ?_)
  rw [ev_up_up]
  obtain ⟨⟨x, t, hxt, -⟩, hl1⟩ := gf_rf (cs := cs) hZ hK9 hT (nL N i) (by omega)
  have ho1 : ev_up h b (iA E 160 f1) (ad i) = h (ad i) := ev_up_n hne
  rw [ho] at ho1
  have hk0 : f1 s = nI (nK N i) := by rw [hf1 s (by omega), pk_us]
  refine ev_istore_3 (ev_dt dt_Term_putReduced_0 12 rfl) (by decide) rfl ?_
  refine ev_aload_0 (ev_dt dt_Term_putReduced_0 13 rfl) ?_
  refine ev_get (ev_dt dt_Term_putReduced_0 14 rfl) g_Term_33_9 ho1 rfl ?_
  refine ev_bipush (ev_dt dt_Term_putReduced_0 15 rfl) bi_9 ?_
  refine ev_icmp_ne (tgt := 35) (ev_dt dt_Term_putReduced_0 16 rfl) (by decide) (fun h9 => ?_) (fun h9 => ?_)
  · have h9' : nK N i ≠ 9 := fun e => h9 (by rw [e])
    have hz3 := (hZ i hi).2.2.2 h6 (by omega)
    refine ev_aload_0 (ev_dt dt_Term_putReduced_0 22 rfl) ?_
    refine ev_get (ev_dt dt_Term_putReduced_0 23 rfl) g_Term_23_9 ho1 rfl ?_
    refine ev_aload_1 (ev_dt dt_Term_putReduced_0 24 rfl) ?_
    refine ev_iload_3 (ev_dt dt_Term_putReduced_0 25 rfl) ?_
    refine ev_putG (d := d + 2) (ev_dt dt_Term_putReduced_0 26 rfl) u_Term_44_6 u_Term_44_7 u_Term_44_8 u_Term_44_9 (hQ.kept (fun z q1 q2 => ev_up_n (by omega))) rfl (ihq _ (s + 1 + (rf N cs (nL N i)).length) f1 (by omega) (fun j hj => (hN j hj).kept (fun z q1 q2 => ev_up_n (by have := hadr j hj; omega))) ev_up_s) (fun f2 hf2 hg2 => ?_)
    rw [ev_up_up]
    obtain ⟨⟨y, u, hyu, -⟩, hl2⟩ := gf_rf (cs := cs) hZ hK9 hT (nQ N i) (by omega)
    have ho2 : ev_up h b (iA E 160 f2) (ad i) = h (ad i) := ev_up_n hne
    rw [ho] at ho2
    have hk1 : f2 s = nI (nK N i) := by rw [hf2 s (by omega)]; exact hk0
    have hg1' : sg f2 (s + 1) (rf N cs (nL N i)) := sg_ext hg1 (fun z q1 q2 => hf2 z (by omega))
    have hrt : rf N cs i = rt (nK N i) (cs (nL N i)) (cs (nQ N i)) (rf N cs (nL N i)) (rf N cs (nQ N i)) := rf_t (by omega) ⟨hl, hq⟩
    have hfr : ∀ z, z < s → f2 z = f z := fun z hz => by rw [hf2 z (by omega), hf1 z (by omega), pk_un (by omega)]
    rw [rt, if_neg h9'] at hrt
    refine ev_istore_4 (ev_dt dt_Term_putReduced_0 27 rfl) (by decide) rfl ?_
    refine ev_aload_1 (ev_dt dt_Term_putReduced_0 28 rfl) ?_
    refine ev_iload_2 (ev_dt dt_Term_putReduced_0 29 rfl) ?_
    refine ev_ic1 (ev_dt dt_Term_putReduced_0 30 rfl) ?_
    refine ev_addn (ev_dt dt_Term_putReduced_0 31 rfl) ?_
    refine ev_iload_3 (ev_dt dt_Term_putReduced_0 32 rfl) ?_
    refine ev_iload_4 (ev_dt dt_Term_putReduced_0 33 rfl) ?_
    refine ev_callS (ev_dt dt_Term_putReduced_0 34 rfl) s_Term_52 [.ref b, .int (nI (s + 1)), .int (nI (s + 1 + (rf N cs (nL N i)).length)), .int (nI ((s + 1 + (rf N cs (nL N i)).length) + (rf N cs (nQ N i)).length))] rfl np_Term_areAlike rfl (ev_lk_of (j := 2) rfl rfl) (t_areAlike (p := rf N cs (nL N i)) (q := rf N cs (nQ N i)) rfl rfl (by omega) ev_up_s hg1' hg2 (fun hx => ev_r1 ?_) (fun hx => ev_r1 ?_))
    · refine ev_if_neT (tgt := 66) (ev_dt dt_Term_putReduced_0 35 rfl) (by decide) z10 ?_
      refine ev_aload_1 (ev_dt dt_Term_putReduced_0 39 rfl) ?_
      refine ev_iload_2 (ev_dt dt_Term_putReduced_0 40 rfl) ?_
      refine ev_ic1 (ev_dt dt_Term_putReduced_0 41 rfl) ?_
      refine ev_addn (ev_dt dt_Term_putReduced_0 42 rfl) ?_
      refine ev_iload_3 (ev_dt dt_Term_putReduced_0 43 rfl) ?_
      refine ev_ic1 (ev_dt dt_Term_putReduced_0 44 rfl) ?_
      refine ev_callS (ev_dt dt_Term_putReduced_0 45 rfl) s_Term_60 [.ref b, .int (nI (s + 1)), .int (nI (s + 1 + (rf N cs (nL N i)).length)), .int (nI 1)] rfl np_Term_moveBack rfl (ev_lk_of (j := 0) rfl rfl) (t_moveBack (d := d + 1) (by omega) (by omega) (by omega) ev_up_s (ev_r1 ?_))
      rw [if_pos (Or.inl hx)] at hrt
      have h3 := sg_mb hg1' (show 1 ≤ s + 1 by omega) rfl
      rw [ev_up_up, show s + 1 + (rf N cs (nL N i)).length - 1 = s + (rf N cs i).length by rw [hrt]; omega]
      exact ev_ireturn (ev_dt dt_Term_putReduced_0 46 rfl) rfl rfl (kk _ (fun z hz => by rw [mb_lo (by omega)]; exact hfr z hz) (by rw [hrt]; exact h3))
    · refine ev_if_neF (tgt := 66) (ev_dt dt_Term_putReduced_0 35 rfl) (by decide) z00 ?_
      refine ev_aload_0 (ev_dt dt_Term_putReduced_0 36 rfl) ?_
      refine ev_callV (ev_dt dt_Term_putReduced_0 37 rfl) v_Term_56_9 ho2 [] rfl np_Term_pDecidesAlone rfl (ev_lk_of (j := 0) rfl rfl) (t_pDecides h99 ho2 (hP.kept (fun z q1 q2 => ev_up_n (by omega))) (hQ.kept (fun z q1 q2 => ev_up_n (by omega))) (fun hd => ev_r1 ?_) (fun hd => ev_r1 ?_))
      · refine ev_if_eqF (tgt := 76) (ev_dt dt_Term_putReduced_0 38 rfl) (by decide) z10 ?_
        refine ev_aload_1 (ev_dt dt_Term_putReduced_0 39 rfl) ?_
        refine ev_iload_2 (ev_dt dt_Term_putReduced_0 40 rfl) ?_
        refine ev_ic1 (ev_dt dt_Term_putReduced_0 41 rfl) ?_
        refine ev_addn (ev_dt dt_Term_putReduced_0 42 rfl) ?_
        refine ev_iload_3 (ev_dt dt_Term_putReduced_0 43 rfl) ?_
        refine ev_ic1 (ev_dt dt_Term_putReduced_0 44 rfl) ?_
        refine ev_callS (ev_dt dt_Term_putReduced_0 45 rfl) s_Term_60 [.ref b, .int (nI (s + 1)), .int (nI (s + 1 + (rf N cs (nL N i)).length)), .int (nI 1)] rfl np_Term_moveBack rfl (ev_lk_of (j := 0) rfl rfl) (t_moveBack (d := d + 1) (by omega) (by omega) (by omega) ev_up_s (ev_r1 ?_))
        rw [if_pos (Or.inr hd)] at hrt
        have h3 := sg_mb hg1' (show 1 ≤ s + 1 by omega) rfl
        rw [ev_up_up, show s + 1 + (rf N cs (nL N i)).length - 1 = s + (rf N cs i).length by rw [hrt]; omega]
        exact ev_ireturn (ev_dt dt_Term_putReduced_0 46 rfl) rfl rfl (kk _ (fun z hz => by rw [mb_lo (by omega)]; exact hfr z hz) (by rw [hrt]; exact h3))
      · refine ev_if_eqT (tgt := 76) (ev_dt dt_Term_putReduced_0 38 rfl) (by decide) z00 ?_
        refine ev_aload_0 (ev_dt dt_Term_putReduced_0 47 rfl) ?_
        refine ev_get (ev_dt dt_Term_putReduced_0 48 rfl) g_Term_33_9 ho2 rfl ?_
        refine ev_bipush (ev_dt dt_Term_putReduced_0 49 rfl) bi_7 ?_
        rw [if_neg (fun e => e.elim hx hd)] at hrt
        refine ev_icmp_eq (tgt := 112) (ev_dt dt_Term_putReduced_0 50 rfl) (by decide) (fun h7 => ?_) (fun h7 => ?_)
        · refine ev_iload_4 (ev_dt dt_Term_putReduced_1 9 rfl) ?_
          rw [if_neg (fun e => e.1 ((nI_eq (by omega) (by omega)).mp h7))] at hrt
          rw [show s + 1 + (rf N cs (nL N i)).length + (rf N cs (nQ N i)).length = s + (rf N cs i).length by rw [hrt]; simp; omega]
          exact ev_ireturn (ev_dt dt_Term_putReduced_1 10 rfl) rfl rfl (kk f2 hfr (by rw [hrt]; exact ⟨hk1, sg_app _ _ (s + 1) hg1' hg2⟩))
        · refine ev_aload_1 (ev_dt dt_Term_putReduced_0 51 rfl) ?_
          refine ev_iload_2 (ev_dt dt_Term_putReduced_0 52 rfl) ?_
          refine ev_ic1 (ev_dt dt_Term_putReduced_0 53 rfl) ?_
          refine ev_addn (ev_dt dt_Term_putReduced_0 54 rfl) ?_
          refine ev_iald (ev_dt dt_Term_putReduced_0 55 rfl) ev_up_s (by omega) (by decide) rfl ?_
          rw [hxt] at hg1'
          rw [hg1'.1]
          rw [← hxt] at hg1'
          refine ev_bipush (ev_dt dt_Term_putReduced_0 56 rfl) bi_9 ?_
          refine ev_icmp_ne (tgt := 112) (ev_dt dt_Term_putReduced_0 57 rfl) (by decide) (fun hx9 => ?_) (fun hx9 => ?_)
          · refine ev_iload_4 (ev_dt dt_Term_putReduced_1 9 rfl) ?_
            rw [if_neg (fun e => hx9 (by rw [hxt] at e; simpa using e.2.1))] at hrt
            rw [show s + 1 + (rf N cs (nL N i)).length + (rf N cs (nQ N i)).length = s + (rf N cs i).length by rw [hrt]; simp; omega]
            exact ev_ireturn (ev_dt dt_Term_putReduced_1 10 rfl) rfl rfl (kk f2 hfr (by rw [hrt]; exact ⟨hk1, sg_app _ _ (s + 1) hg1' hg2⟩))
          · refine ev_aload_1 (ev_dt dt_Term_putReduced_0 58 rfl) ?_
            refine ev_iload_3 (ev_dt dt_Term_putReduced_0 59 rfl) ?_
            refine ev_iald (ev_dt dt_Term_putReduced_1 0 rfl) ev_up_s (by omega) (by decide) rfl ?_
            rw [hyu] at hg2
            rw [hg2.1]
            rw [← hyu] at hg2
            refine ev_bipush (ev_dt dt_Term_putReduced_1 1 rfl) bi_9 ?_
            refine ev_icmp_ne (tgt := 112) (ev_dt dt_Term_putReduced_1 2 rfl) (by decide) (fun hy9 => ?_) (fun hy9 => ?_)
            · refine ev_iload_4 (ev_dt dt_Term_putReduced_1 9 rfl) ?_
              rw [if_neg (fun e => hy9 (by rw [hyu] at e; simpa using e.2.2))] at hrt
              rw [show s + 1 + (rf N cs (nL N i)).length + (rf N cs (nQ N i)).length = s + (rf N cs i).length by rw [hrt]; simp; omega]
              exact ev_ireturn (ev_dt dt_Term_putReduced_1 10 rfl) rfl rfl (kk f2 hfr (by rw [hrt]; exact ⟨hk1, sg_app _ _ (s + 1) hg1' hg2⟩))
            · refine ev_aload_1 (ev_dt dt_Term_putReduced_1 3 rfl) ?_
              refine ev_iload_2 (ev_dt dt_Term_putReduced_1 4 rfl) ?_
              refine ev_iload_3 (ev_dt dt_Term_putReduced_1 5 rfl) ?_
              refine ev_iload_4 (ev_dt dt_Term_putReduced_1 6 rfl) ?_
              subst hx9
              subst hy9
              refine ev_callS (ev_dt dt_Term_putReduced_1 7 rfl) s_Term_64 [.ref b, .int (nI s), .int (nI (s + 1 + (rf N cs (nL N i)).length)), .int (nI ((s + 1 + (rf N cs (nL N i)).length) + (rf N cs (nQ N i)).length))] rfl np_Term_pullDualOut rfl (ev_lk_of (j := 0) rfl rfl) (t_pullDualOut (d := d) (kd := nK N i) (tp := t) (tq := u) (by rw [hxt]) (by rw [hyu]) (by omega) ev_up_s hk1 (by rw [← hxt]; exact hg1') (by rw [← hyu]; exact hg2) (fun f3 hf3 hg3 => ev_r1 ?_))
              rw [if_pos ⟨fun e => h7 (by rw [e]), by rw [hxt]; rfl, by rw [hyu]; rfl⟩, hxt, hyu] at hrt
              have k2 := kk f3 (fun z hz => (hf3 z hz).trans (hfr z hz)) (by rw [hrt]; exact hg3)
              rw [hrt] at k2
              rw [ev_up_up]
              exact ev_ireturn (ev_dt dt_Term_putReduced_1 8 rfl) rfl rfl k2
  · have h9' : nK N i = 9 := (nI_eq (by omega) (by omega)).mp h9
    have hz9 := (hZ i hi).2.2.1 h9'
    refine ev_aload_1 (ev_dt dt_Term_putReduced_0 17 rfl) ?_
    refine ev_iload_2 (ev_dt dt_Term_putReduced_0 18 rfl) ?_
    refine ev_iload_3 (ev_dt dt_Term_putReduced_0 19 rfl) ?_
    refine ev_callS (ev_dt dt_Term_putReduced_0 20 rfl) s_Term_48 [.ref b, .int (nI s), .int (nI (s + 1 + (rf N cs (nL N i)).length))] rfl np_Term_reduceDual rfl (ev_lk_of (j := 1) rfl rfl) (t_reduceDual (d := d) (x := x) (t := t) (by rw [hxt]; simp; omega) (by omega) ev_up_s (by rw [hk0, h9']) (by rw [hxt] at hg1; exact hg1) (fun f2 hf2 hg2 => ev_r1 ?_))
    have hr : rf N cs i = rd (x :: t) := by rw [rf_t (by omega) ⟨hl, hq⟩, rt, if_pos h9', hxt]
    rw [ev_up_up]
    have k2 := kk f2 (fun z hz => by rw [hf2 z hz, hf1 z (by omega), pk_un (by omega)]) (by rw [hr]; exact hg2)
    rw [hr] at k2
    exact ev_ireturn (ev_dt dt_Term_putReduced_0 21 rfl) rfl rfl k2
/-- the reduced form of a node, put into the row of numbers -/
theorem t_put {N : nod} {ed : Nat → Nat → Int32} {zs : Nat → Nat} {cs : Nat → Int32} {ad : Nat → Nat} {b c : Nat} (hadr : ∀ j, j < c → b < ad j) (hZ : okZ N zs c) :
    ∀ i, i < c → ∀ d, i + 5 ≤ d → ∀ (h : ev_h) (s : Nat) (f : Nat → Int32), s + 4 * zs i ≤ 160 → (∀ j, j < c → NdAt E N ed zs cs ad j h) → h b = some (iA E 160 f) → pC E N cs ad b i d s f h sz k n := by
  intro i
  induction i using Nat.strongRecOn with
  | _ i ih =>
    intro hi d hd h s f hs hN hb Q kk
    have hne : ad i ≠ b := by have := hadr i hi; omega
    have hK9 : ∀ n, n < c → nK N n ≤ 9 := fun n hn => by
      rcases hN n hn with ⟨a, -⟩ | ⟨a, -⟩ | ⟨a, -⟩ | ⟨-, a, -⟩ <;> omega
    have hT : ∀ n, n < c → ¬ nK N n < 6 → nL N n < n ∧ nQ N n < n := fun n hn hk => by
      rcases hN n hn with ⟨a, -⟩ | ⟨a, -⟩ | ⟨a, -⟩ | ⟨-, -, a, b, -⟩
      · omega
      · omega
      · omega
      · exact ⟨a, b⟩
    have hz1 : nK N i < 6 → zs i = 1 := (hZ i hi).2.1
    rcases hN i hi with ⟨hk, hc, ho⟩ | ⟨hk, hc, ho, hy⟩ | ⟨hk, hc, ho, he, hr⟩ | ⟨h6, h9, hl, hq, ho⟩
    · rw [show pM N i = m_Order_putReduced from if_pos (by omega), show pL N i (ad i) b s = [some (.ref (ad i)), some (.ref b), some (.int (nI s))] from if_pos (by omega)]
      obtain ⟨d, rfl⟩ : ∃ e, d = e + 1 := ⟨d - 1, by omega⟩
      exact t_Order_put_6 hk (by have := hz1 (by omega); omega) ho hne hb kk
    · rw [show pM N i = m_Order_putReduced from if_pos (by omega), show pL N i (ad i) b s = [some (.ref (ad i)), some (.ref b), some (.int (nI s))] from if_pos (by omega)]
      obtain ⟨d, rfl⟩ : ∃ e, d = e + 1 := ⟨d - 1, by omega⟩
      exact t_Order_put_7 hk (by have := hz1 (by omega); omega) ho hne hb kk
    · rw [show pM N i = m_Order_putReduced from if_pos (by omega), show pL N i (ad i) b s = [some (.ref (ad i)), some (.ref b), some (.int (nI s))] from if_pos (by omega)]
      obtain ⟨d, rfl⟩ : ∃ e, d = e + 1 := ⟨d - 1, by omega⟩
      exact t_Order_put_8 hk (by have := hz1 (by omega); omega) ho hne hb kk
    · rw [show pM N i = m_Term_putReduced from if_neg (by omega), show pL N i (ad i) b s = [some (.ref (ad i)), some (.ref b), some (.int (nI s)), none, none] from if_neg (by omega)]
      obtain ⟨d, rfl⟩ : ∃ e, d = e + 3 := ⟨d - 3, by omega⟩
      exact t_Term_put hi h6 h9 hl hq hs ho hne hb hN hadr hZ hK9 hT (fun h' s' f' a b' c' => ih (nL N i) hl (by omega) (d + 2) (by omega) h' s' f' a b' c') (fun h' s' f' a b' c' => ih (nQ N i) hq (by omega) (d + 2) (by omega) h' s' f' a b' c') kk
end C10
