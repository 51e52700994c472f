/-! The class's methods: saved questions, reduce (written by gen_c16.py over walk.py). -/
theorem qsv_eq {se al : Nat} (h1 : se ≤ 60000) (h2 : al ≤ 60000) : qsv se = nI al ↔ se = al + 1 := by
  cases se with
  | zero => exact ⟨fun e => absurd e.symm (nI_nm (by omega)), fun e => by omega⟩
  | succ i =>
    show nI i = nI al ↔ _
    rw [nI_eq (by omega) (by omega)]
    omega
theorem uq_self {qs : Nat → qst} {s : Nat} {q : qst} (h : qs s = q) : uq qs s q = qs := by
  funext t
  unfold uq
  by_cases e : t = s
  · rw [if_pos e, e, h]
  · rw [if_neg e]
theorem uq_uq {qs : Nat → qst} {s : Nat} {q q' : qst} : uq (uq qs s q) s q' = uq qs s q' := by
  funext t
  unfold uq
  by_cases e : t = s
  · rw [if_pos e, if_pos e]
  · rw [if_neg e, if_neg e, if_neg e]
theorem uq_s {qs : Nat → qst} {s : Nat} {q : qst} : uq qs s q s = q := if_pos rfl
/-- the current answer is kept up: as it was, if nothing was altered since; else sought anew -/
def kU (c : Nat) (ps : Nat → Bool) (B : Nat → Nat → Bool) (nu : Nat → Int32) (se al c1 : Nat) (f1 : Nat → Int32) (c1' : Nat) (f1' : Nat → Int32) : Prop := (se = al + 1 ∧ c1' = c1 ∧ f1' = f1) ∨ ∃ π, en c1' π (ub c ps B) c ∧ ∀ j, j < c1' → f1' j = nu (π j)
theorem kU_le {c : Nat} {ps : Nat → Bool} {B : Nat → Nat → Bool} {nu : Nat → Int32} {se al c1 : Nat} {f1 : Nat → Int32} {c1' : Nat} {f1' : Nat → Int32} (h : kU c ps B nu se al c1 f1 c1' f1') (h1 : c1 ≤ 24) (hc : c ≤ 24) : c1' ≤ 24 := by
  rcases h with ⟨-, h, -⟩ | ⟨π, h, -⟩
  · omega
  · have e := en_total h
    have := cnt_le (ub c ps B) c
    omega
theorem qn_mk {E : ev_E} {a : Nat} {nd : Value} {c : Nat} {on op th : Nat → Int32} {c1 : Nat} {f1 : Nat → Int32} {c2 : Nat} {f2 : Nat → Int32} {se : Int32} {h : ev_h} {x : va_E} (hx : x = oB 4 [nd, .ref (a + 1), .ref (a + 5), .ref (a + 7), .int se]) (h1 : CdAt E (a + 1) c on op th h) (h2 : LsAt E (a + 5) c1 f1 h) (h3 : LsAt E (a + 7) c2 f2 h) : QnAt E a nd c on op th c1 f1 c2 f2 se (ev_up h a x) := by
  subst hx
  exact ⟨ev_up_s, h1.kept (fun q a b => ev_up_n (by omega)), h2.kept (fun q a b => ev_up_n (by omega)), h3.kept (fun q a b => ev_up_n (by omega))⟩
section C16
variable {E : ev_E} {d : Nat} {h : ev_h} {sz k n : Nat} {Q : ev_Q}
variable {X : Nat} {nc al fl c m cc ac : Nat} {nu on op th af ff : Nat → Int32} {V : Nat → Nat → Int32} {qs : Nat → qst} {N : nod} {ed : Nat → Nat → Int32} {zs : Nat → Nat} {cs : Nat → Int32} {ad : Nat → Nat}
theorem t_PT_keepUp {s a nd qc c1 c2 se : Nat} {qon qop qth f1 f2 : Nat → Int32} {cn co : Nat → Nat} {ps : Nat → Bool} (hs4 : s < 4) (ha : a = X + 42 + 9 * s) (hq : qs s = (nd + 1, qc, qon, qop, qth, c1, f1, c2, f2, se)) (hc : c ≤ 24) (hal : al ≤ 60000) (hse : se ≤ 60000) (hcc : qc ≤ 4) (hon : ∀ i, i < qc → qon i = nI (cn i) ∧ cn i < 4) (hop : ∀ i, i < qc → qop i = nI (co i) ∧ co i < 6) (hps : ∀ i, i < c → (ps i = true ↔ okC qc cn co qth (V i))) (hok : okN N nc) (hnc : nc ≤ 24) (hnd : nd < nc) (hP : PtAt E X nc al fl c m nu V cc on op th ac af ff qs N ed zs cs ad h) (kk : ∀ h' c1' f1', kU c ps (bN N V nd) nu se al c1 f1 c1' f1' → PtAt E X nc al fl c m nu V cc on op th ac af ff (uq qs s (nd + 1, qc, qon, qop, qth, c1', f1', c2, f2, al + 1)) N ed zs cs ad h' → cF X h h' → Q (.returned none) h' sz k n) : Ev E m_PT_keepUp (d + 50) 0 [some (.ref X), some (.ref a)] [] h sz k n Q := by
  obtain ⟨pm, be, le, hT⟩ := hP.2.2.2.2.1
  have hNd := hP.2.2.2.2.2.2.2.2.2.2
  have hQ : QnAt E a (.ref (ad nd)) qc qon qop qth c1 f1 c2 f2 (qsv se) h := by have := hP.2.2.2.2.2.2.2.2.2.1 s hs4; rw [hq, ← ha] at this; exact this
  refine ev_aload_1 (ev_dt dt_PT_keepUp_0 0 rfl) ?_
  refine ev_get (ev_dt dt_PT_keepUp_0 1 rfl) g_PT_274_4 hQ.1 rfl ?_
  refine ev_aload_0 (ev_dt dt_PT_keepUp_0 2 rfl) ?_
  refine ev_get (ev_dt dt_PT_keepUp_0 3 rfl) g_PT_56_0 hP.1 rfl ?_
  refine ev_icmp_ne (tgt := 12) (ev_dt dt_PT_keepUp_0 4 rfl) (by decide) (fun h1 => ?_) (fun h1 => ?_)
  · refine ev_aload_0 (ev_dt dt_PT_keepUp_0 6 rfl) ?_
    refine ev_get (ev_dt dt_PT_keepUp_0 7 rfl) g_PT_36_0 hP.1 rfl ?_
    refine ev_aload_0 (ev_dt dt_PT_keepUp_0 8 rfl) ?_
    refine ev_get (ev_dt dt_PT_keepUp_0 9 rfl) g_PT_12_0 hP.1 rfl ?_
    refine ev_aload_1 (ev_dt dt_PT_keepUp_0 10 rfl) ?_
    refine ev_get (ev_dt dt_PT_keepUp_0 11 rfl) g_PT_239_4 hQ.1 rfl ?_
    refine ev_aload_1 (ev_dt dt_PT_keepUp_0 12 rfl) ?_
    refine ev_get (ev_dt dt_PT_keepUp_0 13 rfl) g_PT_277_4 hQ.1 rfl ?_
    refine ev_callV (ev_dt dt_PT_keepUp_0 14 rfl) v_PT_173_5 hT.1 [.ref (X + 1), .ref (ad nd), .ref (a + 1)] rfl np_Contest_hold rfl (ev_lk_of (j := 2) rfl rfl) (t_Contest_hold (nc := nc) (nd := nd) hc hP.2.1 hT hcc hQ.2.1 hon hop hps (by omega) (Or.inr (by omega)) (fun i hi => (hNd i hi).1) hok (fun i hi => by have := (hNd i hi).2; omega) hnd (by omega) (fun h1' pm1 be1 hT1 hf1 hpm hbe => ev_r0 ?_))
    have hP1 := hP.setT hT1 hf1
    have hQ1 := hQ.kept (h' := h1') (fun q a b => hf1 q (by omega))
    have hF1 : cF X h h1' := cF.of hf1 (by omega)
    refine ev_aload_0 (ev_dt dt_PT_keepUp_0 15 rfl) ?_
    refine ev_get (ev_dt dt_PT_keepUp_0 16 rfl) g_PT_36_0 hP1.1 rfl ?_
    refine ev_aload_0 (ev_dt dt_PT_keepUp_0 17 rfl) ?_
    refine ev_get (ev_dt dt_PT_keepUp_0 18 rfl) g_PT_12_0 hP1.1 rfl ?_
    refine ev_aload_1 (ev_dt dt_PT_keepUp_0 19 rfl) ?_
    refine ev_get (ev_dt dt_PT_keepUp_0 20 rfl) g_PT_221_4 hQ1.1 rfl ?_
    refine ev_callV (ev_dt dt_PT_keepUp_0 21 rfl) v_PT_177_5 hT1.1 [.ref (X + 1), .ref (a + 5)] rfl np_Contest_listUnbeaten rfl (ev_lk_of (j := 1) rfl rfl) (t_Contest_listUnbeaten hc hP1.2.1 hT1 hQ1.2.2.1 (by omega) (by omega) (fun h2 c3 f3 π hL hf2 hen hfe => ev_r0 ?_))
    have e0 : h2 a = some (oB 4 [.ref (ad nd), .ref (a + 1), .ref (a + 5), .ref (a + 7), .int (qsv se)]) := (hf2 a (by omega)).trans hQ1.1
    have e1 : h2 X = some (PtO X nc al fl) := (hf2 X (by omega)).trans hP1.1
    refine ev_aload_1 (ev_dt dt_PT_keepUp_0 22 rfl) ?_
    refine ev_aload_0 (ev_dt dt_PT_keepUp_0 23 rfl) ?_
    refine ev_get (ev_dt dt_PT_keepUp_0 24 rfl) g_PT_56_0 e1 rfl ?_
    refine ev_put [.ref (ad nd), .ref (a + 1), .ref (a + 5), .ref (a + 7), .int (nI al)] (ev_dt dt_PT_keepUp_0 25 rfl) p_PT_274_4 e0 rfl rfl rfl rfl ?_
    have hQ2 : QnAt E a (.ref (ad nd)) qc qon qop qth c3 f3 c2 f2 (nI al) (ev_up h2 a (oB 4 [.ref (ad nd), .ref (a + 1), .ref (a + 5), .ref (a + 7), .int (nI al)])) := qn_mk rfl (hQ1.2.1.kept (fun q a b => hf2 q (by omega))) hL (hQ1.2.2.2.kept (fun q a b => hf2 q (by omega)))
    have hf3 : fI a 9 h1' (ev_up h2 a (oB 4 [.ref (ad nd), .ref (a + 1), .ref (a + 5), .ref (a + 7), .int (nI al)])) := fun q hq => (ev_up_n (by omega)).trans (hf2 q (by omega))
    subst ha
    have hP2 := hP1.setQ (q' := (nd + 1, qc, qon, qop, qth, c3, f3, c2, f2, al + 1)) hs4 hQ2 hf3
    exact ev_return (ev_dt dt_PT_keepUp_0 26 rfl) rfl (kk _ c3 f3 (Or.inr ⟨π, en_congr hen (fun _ _ => rfl) (fun r hr => (ub_of (by omega) hpm hbe (fun j hj => bN_self hok hnd) r hr).symm), hfe⟩) hP2 (hF1.tr (cF.of hf3 (by omega))))
  · have hq' : qs s = (nd + 1, qc, qon, qop, qth, c1, f1, c2, f2, al + 1) := by rw [hq, (qsv_eq hse hal).mp h1]
    rw [← uq_self hq'] at hP
    exact ev_return (ev_dt dt_PT_keepUp_0 5 rfl) rfl (kk h c1 f1 (Or.inl ⟨(qsv_eq hse hal).mp h1, rfl, rfl⟩) hP cF.rf)
theorem t_PT_markRead {s a nd qc c1 c2 se : Nat} {qon qop qth f1 f2 : Nat → Int32} {cn co : Nat → Nat} {ps : Nat → Bool} (hs4 : s < 4) (ha : a = X + 42 + 9 * s) (hq : qs s = (nd + 1, qc, qon, qop, qth, c1, f1, c2, f2, se)) (hc : c ≤ 24) (hal : al ≤ 60000) (hse : se ≤ 60000) (hcc : qc ≤ 4) (hon : ∀ i, i < qc → qon i = nI (cn i) ∧ cn i < 4) (hop : ∀ i, i < qc → qop i = nI (co i) ∧ co i < 6) (hps : ∀ i, i < c → (ps i = true ↔ okC qc cn co qth (V i))) (hok : okN N nc) (hnc : nc ≤ 24) (hnd : nd < nc) (hP : PtAt E X nc al fl c m nu V cc on op th ac af ff qs N ed zs cs ad h) (hc1 : c1 ≤ 24) (kk : ∀ h' c1' f1' f2', kU c ps (bN N V nd) nu se al c1 f1 c1' f1' → (∀ j, j < c1' → f2' j = f1' j) → PtAt E X nc al fl c m nu V cc on op th ac af ff (uq qs s (nd + 1, qc, qon, qop, qth, c1', f1', c1', f2', al + 1)) N ed zs cs ad h' → cF X h h' → Q (.returned none) h' sz k n) : Ev E m_PT_markRead (d + 51) 0 [some (.ref X), some (.ref a)] [] h sz k n Q := by
  refine ev_aload_0 (ev_dt dt_PT_markRead_0 0 rfl) ?_
  refine ev_aload_1 (ev_dt dt_PT_markRead_0 1 rfl) ?_
  refine ev_callV (ev_dt dt_PT_markRead_0 2 rfl) v_PT_227_0 hP.1 [.ref a] rfl np_PT_keepUp rfl (ev_lk_of (j := 0) rfl rfl) (t_PT_keepUp (d := d) hs4 ha hq hc hal hse hcc hon hop hps hok hnc hnd hP (fun h1 c3 f3 hu hP1 hF1 => ev_r0 ?_))
  have hQ : QnAt E a (.ref (ad nd)) qc qon qop qth c3 f3 c2 f2 (nI al) h1 := by have := hP1.2.2.2.2.2.2.2.2.2.1 s hs4; rw [uq_s, ← ha] at this; exact this
  refine ev_aload_1 (ev_dt dt_PT_markRead_0 3 rfl) ?_
  refine ev_get (ev_dt dt_PT_markRead_0 4 rfl) g_PT_230_4 hQ.1 rfl ?_
  refine ev_aload_1 (ev_dt dt_PT_markRead_0 5 rfl) ?_
  refine ev_get (ev_dt dt_PT_markRead_0 6 rfl) g_PT_221_4 hQ.1 rfl ?_
  refine ev_callV (ev_dt dt_PT_markRead_0 7 rfl) v_PT_278_2 hQ.2.2.2.1 [.ref (a + 5)] rfl np_RowList_copyFrom rfl (ev_lk_of (j := 0) rfl rfl) (t_RowList_copyFrom (kU_le hu hc1 hc) (Or.inr (by omega)) hQ.2.2.2 hQ.2.2.1 (ev_r0 ?_))
  have hL : LsAt E (a + 7) c3 (va_cpy f3 f2 0 0 c3) (ev_up (ev_up h1 (a + 7 + 1) (iA E 24 (va_cpy f3 f2 0 0 c3))) (a + 7) (oB 2 [.ref (a + 7 + 1), .int (nI c3)])) := ⟨ev_up_s, (ev_up_n (by omega)).trans ev_up_s⟩
  have hf : fI (a + 7) 2 h1 (ev_up (ev_up h1 (a + 7 + 1) (iA E 24 (va_cpy f3 f2 0 0 c3))) (a + 7) (oB 2 [.ref (a + 7 + 1), .int (nI c3)])) := fun q hq => (ev_up_n (by omega)).trans (ev_up_n (by omega))
  generalize (ev_up (ev_up h1 (a + 7 + 1) (iA E 24 (va_cpy f3 f2 0 0 c3))) (a + 7) (oB 2 [.ref (a + 7 + 1), .int (nI c3)])) = h2 at hL hf ⊢
  have hQ2 : QnAt E a (.ref (ad nd)) qc qon qop qth c3 f3 c3 (va_cpy f3 f2 0 0 c3) (nI al) h2 := ⟨(hf a (by omega)).trans hQ.1, hQ.2.1.kept (fun q a b => hf q (by omega)), hQ.2.2.1.kept (fun q a b => hf q (by omega)), hL⟩
  have hf3 : fI a 9 h1 h2 := fun q hq => hf q (by omega)
  subst ha
  have hP2 := hP1.setQ (q' := (nd + 1, qc, qon, qop, qth, c3, f3, c3, va_cpy f3 f2 0 0 c3, al + 1)) hs4 hQ2 hf3
  rw [uq_uq] at hP2
  exact ev_return (ev_dt dt_PT_markRead_0 8 rfl) rfl (kk _ c3 f3 _ hu (fun j hj => by rw [pk_cpy_in (by omega) (by omega)]; congr 1; omega) hP2 (hF1.tr (cF.of hf3 (by omega))))
theorem t_PT_isSaved {x : Int32} (hP : PtAt E X nc al fl c m nu V cc on op th ac af ff qs N ed zs cs ad h) (kf : (∀ s, s < 4 → x ≠ nI s) ∨ (∃ s, s < 4 ∧ x = nI s ∧ (qs s).1 = 0) → Q (.returned (some (.int (nI 0)))) h sz k n) (kt : ∀ s i, s < 4 → x = nI s → (qs s).1 = i + 1 → Q (.returned (some (.int (nI 1)))) h sz k n) : Ev E m_PT_isSaved (d + 50) 0 [some (.ref X), some (.int x)] [] h sz k n Q := by
  obtain ⟨qf, hq1, hq2⟩ := hP.2.2.2.2.2.2.2.1
  refine ev_iload_1 (ev_dt dt_PT_isSaved_0 0 rfl) ?_
  refine ev_callS (ev_dt dt_PT_isSaved_0 1 rfl) s_PT_208 [.int x] rfl np_PT_isQuestion rfl (ev_lk_of (j := 0) rfl rfl) (t_PT_isQuestion (fun hx => ev_r1 ?_) (fun hx => ev_r1 ?_))
  · obtain ⟨s, h_s, rfl⟩ := hx
    have hQ := (hP.2.2.2.2.2.2.2.2.2.1 s h_s).1
    refine ev_if_eqF (tgt := 23) (ev_dt dt_PT_isSaved_0 2 rfl) (by decide) z10 ?_
    refine ev_aload_0 (ev_dt dt_PT_isSaved_0 3 rfl) ?_
    refine ev_get (ev_dt dt_PT_isSaved_0 4 rfl) g_PT_52_0 hP.1 rfl ?_
    refine ev_iload_1 (ev_dt dt_PT_isSaved_0 5 rfl) ?_
    refine ev_aald (t := 4) (ev_dt dt_PT_isSaved_0 6 rfl) rfl rfl hq1 (by omega) (by decide) (rf_s (hq2 s h_s)) ?_
    cases hq : (qs s).1 with
    | zero =>
      rw [hq] at hQ
      refine ev_get (v := .null) (ev_dt dt_PT_isSaved_0 7 rfl) g_PT_239_4 hQ rfl ?_
      refine ev_ifnull_n (tgt := 23) (ev_dt dt_PT_isSaved_0 8 rfl) (by decide) ?_
      refine ev_ic0 (ev_dt dt_PT_isSaved_0 11 rfl) ?_
      exact ev_ireturn (ev_dt dt_PT_isSaved_0 12 rfl) rfl bz0 (kf (Or.inr ⟨s, h_s, rfl, hq⟩))
    | succ i =>
      rw [hq] at hQ
      refine ev_get (v := .ref (ad i)) (ev_dt dt_PT_isSaved_0 7 rfl) g_PT_239_4 hQ rfl ?_
      refine ev_ifnull_r (ev_dt dt_PT_isSaved_0 8 rfl) ?_
      refine ev_ic1 (ev_dt dt_PT_isSaved_0 9 rfl) ?_
      refine ev_goto (tgt := 24) (ev_dt dt_PT_isSaved_0 10 rfl) (by decide) ?_
      exact ev_ireturn (ev_dt dt_PT_isSaved_0 12 rfl) rfl bz1 (kt s i h_s rfl hq)
  · refine ev_if_eqT (tgt := 23) (ev_dt dt_PT_isSaved_0 2 rfl) (by decide) z00 ?_
    refine ev_ic0 (ev_dt dt_PT_isSaved_0 11 rfl) ?_
    exact ev_ireturn (ev_dt dt_PT_isSaved_0 12 rfl) rfl bz0 (kf (Or.inl hx))
theorem t_PT_read {x : Int32} {cn co : Nat → Nat → Nat} {ps : Nat → Nat → Bool} (hc : c ≤ 24) (hal : al ≤ 60000) (hnc : nc ≤ 24) (hok : okN N nc) (hqs : ∀ s nd qc qon qop qth c1 f1 c2 f2 se, s < 4 → qs s = (nd + 1, qc, qon, qop, qth, c1, f1, c2, f2, se) → se ≤ 60000 ∧ qc ≤ 4 ∧ (∀ i, i < qc → qon i = nI (cn s i) ∧ cn s i < 4) ∧ (∀ i, i < qc → qop i = nI (co s i) ∧ co s i < 6) ∧ (∀ i, i < c → (ps s i = true ↔ okC qc (cn s) (co s) qth (V i))) ∧ nd < nc ∧ c1 ≤ 24 ∧ c2 ≤ 24) (hP : PtAt E X nc al fl c m nu V cc on op th ac af ff qs N ed zs cs ad h) (kf : (∀ s, s < 4 → x ≠ nI s) ∨ (∃ s, s < 4 ∧ x = nI s ∧ (qs s).1 = 0) → Q (.returned (some (.int (nI 0)))) h sz k n) (kt : ∀ s nd qc qon qop qth c1 f1 c2 f2 se, s < 4 → x = nI s → qs s = (nd + 1, qc, qon, qop, qth, c1, f1, c2, f2, se) → ∀ h' c1' f1' f2', kU c (ps s) (bN N V nd) nu se al c1 f1 c1' f1' → (∀ j, j < c1' → f2' j = f1' j) → PtAt E X nc al fl c m nu V cc on op th ac af ff (uq qs s (nd + 1, qc, qon, qop, qth, c1', f1', c1', f2', al + 1)) N ed zs cs ad h' → cF X h h' → Q (.returned (some (.int (nI 1)))) h' sz k n) : Ev E m_PT_read (d + 60) 0 [some (.ref X), some (.int x)] [] h sz k n Q := by
  refine ev_aload_0 (ev_dt dt_PT_read_0 0 rfl) ?_
  refine ev_iload_1 (ev_dt dt_PT_read_0 1 rfl) ?_
  refine ev_callV (ev_dt dt_PT_read_0 2 rfl) v_PT_224_0 hP.1 [.int x] rfl np_PT_isSaved rfl (ev_lk_of (j := 0) rfl rfl) (t_PT_isSaved (d := d + 9) hP (fun hx => ev_r1 ?_) (fun s i h_s hx hsv => ev_r1 ?_))
  · refine ev_if_neF (tgt := 10) (ev_dt dt_PT_read_0 3 rfl) (by decide) z00 ?_
    refine ev_ic0 (ev_dt dt_PT_read_0 4 rfl) ?_
    exact ev_ireturn (ev_dt dt_PT_read_0 5 rfl) rfl bz0 (kf hx)
  · subst hx
    refine ev_if_neT (tgt := 10) (ev_dt dt_PT_read_0 3 rfl) (by decide) z10 ?_
    obtain ⟨qf, hq1, hq2⟩ := hP.2.2.2.2.2.2.2.1
    obtain ⟨nd, qc, qon, qop, qth, c1, f1, c2, f2, se, hq⟩ : ∃ nd qc qon qop qth c1 f1 c2 f2 se, qs s = (nd + 1, qc, qon, qop, qth, c1, f1, c2, f2, se) := by
      rcases hqq : qs s with ⟨b0, b1, b2, b3, b4, b5, b6, b7, b8, b9⟩
      rw [hqq] at hsv
      exact ⟨i, b1, b2, b3, b4, b5, b6, b7, b8, b9, by rw [show b0 = i + 1 from hsv]⟩
    obtain ⟨hse, hqc, hqon, hqop, hqps, hnd, hc1, hc2⟩ := hqs s nd qc qon qop qth c1 f1 c2 f2 se h_s hq
    refine ev_aload_0 (ev_dt dt_PT_read_0 6 rfl) ?_
    refine ev_aload_0 (ev_dt dt_PT_read_0 7 rfl) ?_
    refine ev_get (ev_dt dt_PT_read_0 8 rfl) g_PT_52_0 hP.1 rfl ?_
    refine ev_iload_1 (ev_dt dt_PT_read_0 9 rfl) ?_
    refine ev_aald (t := 4) (ev_dt dt_PT_read_0 10 rfl) rfl rfl hq1 (by omega) (by decide) (rf_s (hq2 s h_s)) ?_
    refine ev_callV (ev_dt dt_PT_read_0 11 rfl) v_PT_217_0 hP.1 [.ref (X + 42 + 9 * s)] rfl np_PT_markRead rfl (ev_lk_of (j := 0) rfl rfl) (t_PT_markRead (d := d + 8) h_s rfl hq hc hal hse hqc hqon hqop hqps hok hnc hnd hP hc1 (fun h1 c3 f3 f4 hu hf4 hP1 hF1 => ev_r0 ?_))
    refine ev_ic1 (ev_dt dt_PT_read_0 12 rfl) ?_
    exact ev_ireturn (ev_dt dt_PT_read_0 13 rfl) rfl bz1 (kt s nd qc qon qop qth c1 f1 c2 f2 se h_s rfl hq h1 c3 f3 f4 hu hf4 hP1 hF1)
theorem i3_out {y : Int32} (h0 : y ≠ nI 0) (h1 : y ≠ nI 1) (h2 : y ≠ nI 2) : y.toInt < 0 ∨ 2 < y.toInt := by
  by_cases hy : y < 0
  · left
    exact Int32.lt_iff_toInt_lt.mp hy
  · right
    obtain ⟨j, hj, rfl⟩ := nI_of hy
    rw [nI_toInt hj]
    have a0 : j ≠ 0 := fun e => h0 (by rw [e])
    have a1 : j ≠ 1 := fun e => h1 (by rw [e])
    have a2 : j ≠ 2 := fun e => h2 (by rw [e])
    omega
theorem t_PT_saved {x y z : Int32} {cn co : Nat → Nat → Nat} {ps : Nat → Nat → Bool} (hc : c ≤ 24) (hal : al ≤ 60000) (hnc : nc ≤ 24) (hok : okN N nc) (hqs : ∀ s nd qc qon qop qth c1 f1 c2 f2 se, s < 4 → qs s = (nd + 1, qc, qon, qop, qth, c1, f1, c2, f2, se) → se ≤ 60000 ∧ qc ≤ 4 ∧ (∀ i, i < qc → qon i = nI (cn s i) ∧ cn s i < 4) ∧ (∀ i, i < qc → qop i = nI (co s i) ∧ co s i < 6) ∧ (∀ i, i < c → (ps s i = true ↔ okC qc (cn s) (co s) qth (V i))) ∧ nd < nc ∧ c1 ≤ 24 ∧ c2 ≤ 24) (hP : PtAt E X nc al fl c m nu V cc on op th ac af ff qs N ed zs cs ad h) (kf : (∀ s, s < 4 → x ≠ nI s) ∨ (∃ s, s < 4 ∧ x = nI s ∧ (qs s).1 = 0) → Q (.returned (some (.int (-1)))) h sz k n) (k0 : ∀ s nd qc qon qop qth c1 f1 c2 f2 se, s < 4 → x = nI s → qs s = (nd + 1, qc, qon, qop, qth, c1, f1, c2, f2, se) → ∀ h' c1' f1', kU c (ps s) (bN N V nd) nu se al c1 f1 c1' f1' → PtAt E X nc al fl c m nu V cc on op th ac af ff (uq qs s (nd + 1, qc, qon, qop, qth, c1', f1', c2, f2, al + 1)) N ed zs cs ad h' → cF X h h' → y = nI 0 → ∀ r, pkR c1' (fun _ => true) f1' z r → Q (.returned (some (.int r))) h' sz k n) (k1 : ∀ s nd qc qon qop qth c1 f1 c2 f2 se, s < 4 → x = nI s → qs s = (nd + 1, qc, qon, qop, qth, c1, f1, c2, f2, se) → ∀ h' c1' f1', kU c (ps s) (bN N V nd) nu se al c1 f1 c1' f1' → PtAt E X nc al fl c m nu V cc on op th ac af ff (uq qs s (nd + 1, qc, qon, qop, qth, c1', f1', c2, f2, al + 1)) N ed zs cs ad h' → cF X h h' → y = nI 1 → ∀ r, pkR c1' (fun q => decide (∀ i, i < c2 → f2 i ≠ f1' q)) f1' z r → Q (.returned (some (.int r))) h' sz k n) (k2 : ∀ s nd qc qon qop qth c1 f1 c2 f2 se, s < 4 → x = nI s → qs s = (nd + 1, qc, qon, qop, qth, c1, f1, c2, f2, se) → ∀ h' c1' f1', kU c (ps s) (bN N V nd) nu se al c1 f1 c1' f1' → PtAt E X nc al fl c m nu V cc on op th ac af ff (uq qs s (nd + 1, qc, qon, qop, qth, c1', f1', c2, f2, al + 1)) N ed zs cs ad h' → cF X h h' → y = nI 2 → ∀ r, pkR c2 (fun q => decide (∀ i, i < c1' → f1' i ≠ f2 q)) f2 z r → Q (.returned (some (.int r))) h' sz k n) (kn : ∀ s nd qc qon qop qth c1 f1 c2 f2 se, s < 4 → x = nI s → qs s = (nd + 1, qc, qon, qop, qth, c1, f1, c2, f2, se) → ∀ h' c1' f1', kU c (ps s) (bN N V nd) nu se al c1 f1 c1' f1' → PtAt E X nc al fl c m nu V cc on op th ac af ff (uq qs s (nd + 1, qc, qon, qop, qth, c1', f1', c2, f2, al + 1)) N ed zs cs ad h' → cF X h h' → y ≠ nI 0 → y ≠ nI 1 → y ≠ nI 2 → Q (.returned (some (.int (-1)))) h' sz k n) : Ev E m_PT_saved (d + 60) 0 [some (.ref X), some (.int x), some (.int y), some (.int z), none] [] h sz k n Q := by
  refine ev_aload_0 (ev_dt dt_PT_saved_0 0 rfl) ?_
  refine ev_iload_1 (ev_dt dt_PT_saved_0 1 rfl) ?_
  refine ev_callV (ev_dt dt_PT_saved_0 2 rfl) v_PT_224_0 hP.1 [.int x] rfl np_PT_isSaved rfl (ev_lk_of (j := 0) rfl rfl) (t_PT_isSaved (d := d + 9) hP (fun hx => ev_r1 ?_) (fun s i h_s hx hsv => ev_r1 ?_))
  · refine ev_if_neF (tgt := 10) (ev_dt dt_PT_saved_0 3 rfl) (by decide) z00 ?_
    refine ev_icm (ev_dt dt_PT_saved_0 4 rfl) ?_
    exact ev_ireturn (ev_dt dt_PT_saved_0 5 rfl) rfl rfl (kf hx)
  · subst hx
    refine ev_if_neT (tgt := 10) (ev_dt dt_PT_saved_0 3 rfl) (by decide) z10 ?_
    obtain ⟨qf, hq1, hq2⟩ := hP.2.2.2.2.2.2.2.1
    obtain ⟨nd, qc, qon, qop, qth, c1, f1, c2, f2, se, hq⟩ : ∃ nd qc qon qop qth c1 f1 c2 f2 se, qs s = (nd + 1, qc, qon, qop, qth, c1, f1, c2, f2, se) := by
      rcases hqq : qs s with ⟨b0, b1, b2, b3, b4, b5, b6, b7, b8, b9⟩
      rw [hqq] at hsv
      exact ⟨i, b1, b2, b3, b4, b5, b6, b7, b8, b9, by rw [show b0 = i + 1 from hsv]⟩
    obtain ⟨hse, hqc, hqon, hqop, hqps, hnd, hc1, hc2⟩ := hqs s nd qc qon qop qth c1 f1 c2 f2 se h_s hq
    refine ev_aload_0 (ev_dt dt_PT_saved_0 6 rfl) ?_
    refine ev_get (ev_dt dt_PT_saved_0 7 rfl) g_PT_52_0 hP.1 rfl ?_
    refine ev_iload_1 (ev_dt dt_PT_saved_0 8 rfl) ?_
    refine ev_aald (t := 4) (ev_dt dt_PT_saved_0 9 rfl) rfl rfl hq1 (by omega) (by decide) (rf_s (hq2 s h_s)) ?_
    refine ev_astore_4 (ev_dt dt_PT_saved_0 10 rfl) (by decide) rfl ?_
    refine ev_aload_0 (ev_dt dt_PT_saved_0 11 rfl) ?_
    refine ev_aload_4 (ev_dt dt_PT_saved_0 12 rfl) ?_
    refine ev_callV (ev_dt dt_PT_saved_0 13 rfl) v_PT_227_0 hP.1 [.ref (X + 42 + 9 * s)] rfl np_PT_keepUp rfl (ev_lk_of (j := 0) rfl rfl) (t_PT_keepUp (d := d + 9) h_s rfl hq hc hal hse hqc hqon hqop hqps hok hnc hnd hP (fun h1 c3 f3 hu hP1 hF1 => ev_r0 ?_))
    have hQ : QnAt E (X + 42 + 9 * s) (.ref (ad nd)) qc qon qop qth c3 f3 c2 f2 (nI al) h1 := by have := hP1.2.2.2.2.2.2.2.2.2.1 s h_s; rw [uq_s] at this; exact this
    obtain ⟨nbf, hNb⟩ := hP1.2.2.2.2.2.2.1
    have hc3 := kU_le hu hc1 hc
    refine ev_iload_2 (ev_dt dt_PT_saved_0 14 rfl) ?_
    by_cases h0 : y = nI 0
    · subst h0
      refine ev_tabIn (tgt := 52) (off := 27) (ev_dt dt_PT_saved_0 15 rfl) (by decide +kernel) (by decide +kernel) (by decide +kernel) (by decide) ?_
      refine ev_aload_4 (ev_dt dt_PT_saved_0 16 rfl) ?_
      refine ev_get (ev_dt dt_PT_saved_0 17 rfl) g_PT_221_4 hQ.1 rfl ?_
      refine ev_aload_0 (ev_dt dt_PT_saved_0 18 rfl) ?_
      refine ev_get (ev_dt dt_PT_saved_0 19 rfl) g_PT_47_0 hP1.1 rfl ?_
      refine ev_iload_3 (ev_dt dt_PT_saved_0 20 rfl) ?_
      refine ev_callV (ev_dt dt_PT_saved_0 21 rfl) v_PT_200_2 hQ.2.2.1.1 [.ref (X + 38), .int z] rfl np_RowList_pick rfl (ev_lk_of (j := 2) rfl rfl) (t_RowList_pick (S := fun _ => true) hc3 (by omega) hQ.2.2.1 hNb (fun q hq => ⟨fun _ i hi => absurd hi (Nat.not_lt_zero _), fun _ => rfl⟩) (fun r hr => ev_r1 ?_))
      exact ev_ireturn (ev_dt dt_PT_saved_0 22 rfl) rfl rfl (k0 s nd qc qon qop qth c1 f1 c2 f2 se h_s rfl hq h1 c3 f3 hu hP1 hF1 rfl r hr)
    by_cases h1y : y = nI 1
    · subst h1y
      refine ev_tabIn (tgt := 66) (off := 41) (ev_dt dt_PT_saved_0 15 rfl) (by decide +kernel) (by decide +kernel) (by decide +kernel) (by decide) ?_
      refine ev_aload_4 (ev_dt dt_PT_saved_0 23 rfl) ?_
      refine ev_get (ev_dt dt_PT_saved_0 24 rfl) g_PT_221_4 hQ.1 rfl ?_
      refine ev_aload_4 (ev_dt dt_PT_saved_0 25 rfl) ?_
      refine ev_get (ev_dt dt_PT_saved_0 26 rfl) g_PT_230_4 hQ.1 rfl ?_
      refine ev_iload_3 (ev_dt dt_PT_saved_0 27 rfl) ?_
      refine ev_callV (ev_dt dt_PT_saved_0 28 rfl) v_PT_200_2 hQ.2.2.1.1 [.ref ((X + 42 + 9 * s) + 7), .int z] rfl np_RowList_pick rfl (ev_lk_of (j := 2) rfl rfl) (t_RowList_pick (S := fun q => decide (∀ i, i < c2 → f2 i ≠ f3 q)) hc3 hc2 hQ.2.2.1 hQ.2.2.2 (fun q hq => decide_eq_true_iff) (fun r hr => ev_r1 ?_))
      exact ev_ireturn (ev_dt dt_PT_saved_0 29 rfl) rfl rfl (k1 s nd qc qon qop qth c1 f1 c2 f2 se h_s rfl hq h1 c3 f3 hu hP1 hF1 rfl r hr)
    by_cases h2y : y = nI 2
    · subst h2y
      refine ev_tabIn (tgt := 81) (off := 56) (ev_dt dt_PT_saved_0 15 rfl) (by decide +kernel) (by decide +kernel) (by decide +kernel) (by decide) ?_
      refine ev_aload_4 (ev_dt dt_PT_saved_0 30 rfl) ?_
      refine ev_get (ev_dt dt_PT_saved_0 31 rfl) g_PT_230_4 hQ.1 rfl ?_
      refine ev_aload_4 (ev_dt dt_PT_saved_0 32 rfl) ?_
      refine ev_get (ev_dt dt_PT_saved_0 33 rfl) g_PT_221_4 hQ.1 rfl ?_
      refine ev_iload_3 (ev_dt dt_PT_saved_0 34 rfl) ?_
      refine ev_callV (ev_dt dt_PT_saved_0 35 rfl) v_PT_200_2 hQ.2.2.2.1 [.ref ((X + 42 + 9 * s) + 5), .int z] rfl np_RowList_pick rfl (ev_lk_of (j := 2) rfl rfl) (t_RowList_pick (S := fun q => decide (∀ i, i < c3 → f3 i ≠ f2 q)) hc2 hc3 hQ.2.2.2 hQ.2.2.1 (fun q hq => decide_eq_true_iff) (fun r hr => ev_r1 ?_))
      exact ev_ireturn (ev_dt dt_PT_saved_0 36 rfl) rfl rfl (k2 s nd qc qon qop qth c1 f1 c2 f2 se h_s rfl hq h1 c3 f3 hu hP1 hF1 rfl r hr)
    have hout : y.toInt < 0 ∨ 2 < y.toInt := i3_out h0 h1y h2y
    refine ev_tabOut (tgt := 96) (ev_dt dt_PT_saved_0 15 rfl) hout (by decide) ?_
    refine ev_icm (ev_dt dt_PT_saved_0 37 rfl) ?_
    exact ev_ireturn (ev_dt dt_PT_saved_0 38 rfl) rfl rfl (kn s nd qc qon qop qth c1 f1 c2 f2 se h_s rfl hq h1 c3 f3 hu hP1 hF1 h0 h1y h2y)
theorem okC_th {qc : Nat} {cn co : Nat → Nat} {t t' U : Nat → Int32} (h : ∀ i, i < qc → t i = t' i) : okC qc cn co t U ↔ okC qc cn co t' U :=
  ⟨fun q i hi => by rw [← h i hi]; exact q i hi, fun q i hi => by rw [h i hi]; exact q i hi⟩
theorem t_PT_save {x y : Int32} {cn co : Nat → Nat} {ps : Nat → Bool} (hc : c ≤ 24) (hal : al ≤ 60000) (hnc : nc ≤ 24) (hok : okN N nc) (hcc : cc ≤ 4) (hon : ∀ i, i < cc → on i = nI (cn i) ∧ cn i < 4) (hop : ∀ i, i < cc → op i = nI (co i) ∧ co i < 6) (hps : ∀ i, i < c → (ps i = true ↔ okC cc cn co th (V i))) (hqc : ∀ s b0 b1 b2 b3 b4 b5 b6 b7 b8 b9, s < 4 → qs s = (b0, b1, b2, b3, b4, b5, b6, b7, b8, b9) → b5 ≤ 24) (hs : nsp X N ad nc sz) (hP : PtAt E X nc al fl c m nu V cc on op th ac af ff qs N ed zs cs ad h) (kx : (∀ s, s < 4 → x ≠ nI s) ∨ (∀ i, i < nc → y ≠ nI i) → ∀ h', PtAt E X nc al fl c m nu V cc on op th ac af ff qs N ed zs cs ad h' → nsp X N ad nc (sz + 1) → cF X h h' → h' sz = some (oB 13 []) → Q (.threw sz) h' (sz + 1) k n) (kk : ∀ s i, s < 4 → x = nI s → i < nc → y = nI i → ∀ h' on' op' th' c1' f1' f2' π, (∀ j, j < cc → on' j = on j ∧ op' j = op j ∧ th' j = th j) → en c1' π (ub c ps (bN N V i)) c → (∀ j, j < c1' → f1' j = nu (π j)) → (∀ j, j < c1' → f2' j = f1' j) → PtAt E X nc al fl c m nu V cc on op th ac af ff (uq qs s (i + 1, cc, on', op', th', c1', f1', c1', f2', al + 1)) N ed zs cs ad h' → cF X h h' → Q (.returned (some (.int (nI c1')))) h' sz k n) : Ev E m_PT_save (d + 60) 0 [some (.ref X), some (.int x), some (.int y), none] [] h sz (k + 1) (n + 6) Q := by
  obtain ⟨nf, hn1, hn2⟩ := hP.2.2.1
  refine ev_iload_1 (ev_dt dt_PT_save_0 0 rfl) ?_
  refine ev_callS (ev_dt dt_PT_save_0 1 rfl) s_PT_208 [.int x] rfl np_PT_isQuestion rfl (ev_lk_of (j := 0) rfl rfl) (t_PT_isQuestion (fun hx => ev_r1 ?_) (fun hx => ev_r1 ?_))
  · obtain ⟨s, h_s, rfl⟩ := hx
    refine ev_if_eqF (tgt := 15) (ev_dt dt_PT_save_0 2 rfl) (by decide) z10 ?_
    refine ev_aload_0 (ev_dt dt_PT_save_0 3 rfl) ?_
    refine ev_iload_2 (ev_dt dt_PT_save_0 4 rfl) ?_
    refine ev_callV (ev_dt dt_PT_save_0 5 rfl) v_PT_118_0 hP.1 [.int y] rfl np_PT_isNode rfl (ev_lk_of (j := 0) rfl rfl) (t_PT_isNode hnc hP.1 (fun hnode => ev_r1 ?_) (fun hnode => ev_r1 ?_))
    · obtain ⟨i, h_i, rfl⟩ := hnode
      refine ev_if_neT (tgt := 25) (ev_dt dt_PT_save_0 6 rfl) (by decide) z10 ?_
      refine ev_wide (k' := k) (n' := n) (Nat.le_refl _) (Nat.le_add_right _ _) (Nat.le_add_right _ _) ?_
      obtain ⟨qf, hq1, hq2⟩ := hP.2.2.2.2.2.2.2.1
      rcases hqq : qs s with ⟨b0, b1, b2, b3, b4, b5, b6, b7, b8, b9⟩
      have hQ : QnAt E (X + 42 + 9 * s) (qnv ad b0) b1 b2 b3 b4 b5 b6 b7 b8 (qsv b9) h := by have := hP.2.2.2.2.2.2.2.2.2.1 s h_s; rw [hqq] at this; exact this
      have hb5 := hqc s b0 b1 b2 b3 b4 b5 b6 b7 b8 b9 h_s hqq
      refine ev_aload_0 (ev_dt dt_PT_save_0 12 rfl) ?_
      refine ev_get (ev_dt dt_PT_save_0 13 rfl) g_PT_52_0 hP.1 rfl ?_
      refine ev_iload_1 (ev_dt dt_PT_save_0 14 rfl) ?_
      refine ev_aald (t := 4) (ev_dt dt_PT_save_0 15 rfl) rfl rfl hq1 (by omega) (by decide) (rf_s (hq2 s h_s)) ?_
      refine ev_astore_3 (ev_dt dt_PT_save_0 16 rfl) (by decide) rfl ?_
      refine ev_aload_3 (ev_dt dt_PT_save_0 17 rfl) ?_
      refine ev_aload_0 (ev_dt dt_PT_save_0 18 rfl) ?_
      refine ev_get (ev_dt dt_PT_save_0 19 rfl) g_PT_18_0 hP.1 rfl ?_
      refine ev_iload_2 (ev_dt dt_PT_save_0 20 rfl) ?_
      refine ev_aald (t := 3) (ev_dt dt_PT_save_0 21 rfl) rfl rfl hn1 (by omega) (by decide) (rf_s (hn2 i h_i)) ?_
      refine ev_aload_0 (ev_dt dt_PT_save_0 22 rfl) ?_
      refine ev_get (ev_dt dt_PT_save_0 23 rfl) g_PT_29_0 hP.1 rfl ?_
      refine ev_callV (ev_dt dt_PT_save_0 24 rfl) v_PT_213_4 hQ.1 [.ref (ad i), .ref (X + 29)] rfl np_Question_ask rfl (ev_lk_of (j := 0) rfl rfl) (t_Question_ask hcc (by omega) hQ.1 hQ.2.1 hP.2.2.2.1 (fun h1 on' op' th' e1 hC1 hf1 hsame => ev_r0 ?_))
      have hQ1 : QsAt E ad (X + 42 + 9 * s) (i + 1, cc, on', op', th', b5, b6, b7, b8, 0) h1 := ⟨e1, hC1, hQ.2.2.1.kept (fun q a b => hf1 q (by omega)), hQ.2.2.2.kept (fun q a b => hf1 q (by omega))⟩
      have hf9 : fI (X + 42 + 9 * s) 9 h h1 := fun q hq => hf1 q (by omega)
      have hP1 := hP.setQ h_s hQ1 hf9
      refine ev_aload_0 (ev_dt dt_PT_save_0 25 rfl) ?_
      refine ev_aload_3 (ev_dt dt_PT_save_0 26 rfl) ?_
      refine ev_callV (ev_dt dt_PT_save_0 27 rfl) v_PT_217_0 hP1.1 [.ref (X + 42 + 9 * s)] rfl np_PT_markRead rfl (ev_lk_of (j := 0) rfl rfl) (t_PT_markRead (d := d + 8) (ps := ps) (cn := cn) (co := co) h_s rfl uq_s hc hal (by omega) hcc (fun j hj => by rw [(hsame j hj).1]; exact hon j hj) (fun j hj => by rw [(hsame j hj).2.1]; exact hop j hj) (fun j hj => (hps j hj).trans (okC_th (fun l hl => (hsame l hl).2.2.symm))) hok hnc h_i hP1 hb5 (fun h2 c3 f3 f4 hu hf4 hP2 hF2 => ev_r0 ?_))
      rw [uq_uq] at hP2
      have hQ2 : QnAt E (X + 42 + 9 * s) (.ref (ad i)) cc on' op' th' c3 f3 c3 f4 (nI al) h2 := by have := hP2.2.2.2.2.2.2.2.2.2.1 s h_s; rw [uq_s] at this; exact this
      refine ev_aload_3 (ev_dt dt_PT_save_0 28 rfl) ?_
      refine ev_get (ev_dt dt_PT_save_0 29 rfl) g_PT_221_4 hQ2.1 rfl ?_
      refine ev_get (ev_dt dt_PT_save_0 30 rfl) g_PT_181_2 hQ2.2.2.1.1 rfl ?_
      rcases hu with ⟨e, -⟩ | ⟨π, hen, hfe⟩
      · omega
      · exact ev_ireturn (ev_dt dt_PT_save_0 31 rfl) rfl rfl (kk s i h_s rfl h_i rfl h2 on' op' th' c3 f3 f4 π hsame hen hfe hf4 hP2 ((cF.of hf9 (by omega)).tr hF2))
    · refine ev_if_neF (tgt := 25) (ev_dt dt_PT_save_0 6 rfl) (by decide) z00 ?_
      exact ev_throw (ev_dt dt_PT_save_0 7 rfl) (ev_dt dt_PT_save_0 8 rfl) (ev_dt dt_PT_save_0 9 rfl) (ev_dt dt_PT_save_0 10 rfl) (ev_dt dt_PT_save_0 11 rfl) rfl th_PT_211_102 rfl (kx (Or.inr hnode) _ (hP.ex hs) hs.up (cF.up (Or.inr hs.1)) ev_up_s)
  · refine ev_if_eqT (tgt := 15) (ev_dt dt_PT_save_0 2 rfl) (by decide) z00 ?_
    exact ev_throw (ev_dt dt_PT_save_0 7 rfl) (ev_dt dt_PT_save_0 8 rfl) (ev_dt dt_PT_save_0 9 rfl) (ev_dt dt_PT_save_0 10 rfl) (ev_dt dt_PT_save_0 11 rfl) rfl th_PT_211_102 rfl (kx (Or.inl hx) _ (hP.ex hs) hs.up (cF.up (Or.inr hs.1)) ev_up_s)
theorem t_PT_reduce {x : Int32} (hnc : nc ≤ 24) (hZ : okZ N zs nc) (hs : nsp X N ad nc sz) (hP : PtAt E X nc al fl c m nu V cc on op th ac af ff qs N ed zs cs ad h) (kx : (∀ i, i < nc → x ≠ nI i) → ∀ h', PtAt E X nc al fl c m nu V cc on op th ac af ff qs N ed zs cs ad h' → nsp X N ad nc (sz + 1) → cF X h h' → h' sz = some (oB 13 []) → Q (.threw sz) h' (sz + 1) k n) (kk : ∀ i, i < nc → x = nI i → ∀ h' ff', sg ff' 0 (rf N cs i) → PtAt E X nc al (rf N cs i).length c m nu V cc on op th ac af ff' qs N ed zs cs ad h' → cF X h h' → Q (.returned (some (.int (nI (rf N cs i).length)))) h' sz k n) : Ev E m_PT_reduce (d + 60) 0 [some (.ref X), some (.int x)] [] h sz (k + 1) (n + 6) Q := by
  obtain ⟨nf, hn1, hn2⟩ := hP.2.2.1
  refine ev_aload_0 (ev_dt dt_PT_reduce_0 0 rfl) ?_
  refine ev_iload_1 (ev_dt dt_PT_reduce_0 1 rfl) ?_
  refine ev_callV (ev_dt dt_PT_reduce_0 2 rfl) v_PT_118_0 hP.1 [.int x] rfl np_PT_isNode rfl (ev_lk_of (j := 0) rfl rfl) (t_PT_isNode hnc hP.1 (fun hnode => ev_r1 ?_) (fun hnode => ev_r1 ?_))
  · obtain ⟨i, h_i, rfl⟩ := hnode
    refine ev_if_neT (tgt := 18) (ev_dt dt_PT_reduce_0 3 rfl) (by decide) z10 ?_
    refine ev_wide (k' := k) (n' := n) (Nat.le_refl _) (Nat.le_add_right _ _) (Nat.le_add_right _ _) ?_
    refine ev_aload_0 (ev_dt dt_PT_reduce_0 9 rfl) ?_
    refine ev_aload_0 (ev_dt dt_PT_reduce_0 10 rfl) ?_
    refine ev_get (ev_dt dt_PT_reduce_0 11 rfl) g_PT_18_0 hP.1 rfl ?_
    refine ev_iload_1 (ev_dt dt_PT_reduce_0 12 rfl) ?_
    refine ev_aald (t := 3) (ev_dt dt_PT_reduce_0 13 rfl) rfl rfl hn1 (by omega) (by decide) (rf_s (hn2 i h_i)) ?_
    refine ev_aload_0 (ev_dt dt_PT_reduce_0 14 rfl) ?_
    refine ev_get (ev_dt dt_PT_reduce_0 15 rfl) g_PT_59_0 hP.1 rfl ?_
    refine ev_ic0 (ev_dt dt_PT_reduce_0 16 rfl) ?_
    have hNd := hP.2.2.2.2.2.2.2.2.2.2
    have hzi := (hZ i h_i).1
    refine ev_putG (d := d + 59) (ev_dt dt_PT_reduce_0 17 rfl) u_PT_233_6 u_PT_233_7 u_PT_233_8 u_PT_233_9 (hNd i h_i).1 rfl (t_put (c := nc) (fun j hj => by have := (hNd j hj).2; omega) hZ i h_i _ (by omega) h 0 ff (by omega) (fun j hj => (hNd j hj).1) hP.2.2.2.2.2.2.2.2.1) (fun f1 hf1 hg1 => ?_)
    rw [Nat.zero_add]
    have hP1 := hP.setF (ff' := f1)
    refine ev_put [.ref (X + 1), .ref (X + 28), .int (nI nc), .ref (X + 29), .ref (X + 33), .ref (X + 36), .ref (X + 38), .ref (X + 40), .int (nI al), .ref (X + 41), .int (nI (rf N cs i).length)] (ev_dt dt_PT_reduce_0 18 rfl) p_PT_63_0 hP1.1 rfl rfl rfl rfl ?_
    refine ev_aload_0 (ev_dt dt_PT_reduce_0 19 rfl) ?_
    refine ev_get (ev_dt dt_PT_reduce_0 20 rfl) g_PT_63_0 ev_up_s rfl ?_
    exact ev_ireturn (ev_dt dt_PT_reduce_0 21 rfl) rfl rfl (kk i h_i rfl _ f1 hg1 (hP1.setO (al' := al) (fl' := (rf N cs i).length)) ((cF.up (Or.inl (by omega))).tr (cF.up (Or.inl (by omega)))))
  · refine ev_if_neF (tgt := 18) (ev_dt dt_PT_reduce_0 3 rfl) (by decide) z00 ?_
    exact ev_throw (ev_dt dt_PT_reduce_0 4 rfl) (ev_dt dt_PT_reduce_0 5 rfl) (ev_dt dt_PT_reduce_0 6 rfl) (ev_dt dt_PT_reduce_0 7 rfl) (ev_dt dt_PT_reduce_0 8 rfl) rfl th_PT_171_102 rfl (kx hnode _ (hP.ex hs) hs.up (cF.up (Or.inr hs.1)) ev_up_s)
end C16
