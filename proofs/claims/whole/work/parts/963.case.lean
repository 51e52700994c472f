/-! The law's cases (written by gen_law.py over walk.py). -/
theorem c_answer {E : ev_E} {X b L t tt d k n sz : Nat} {xs : Nat → Int32} {h : ev_h} {Q : ev_Q} (hE : ev_nok E) (hX : va_X b L xs E.2.2.2.1 E.2.2.2.1.heap) (hb : b < ev_b E) (hL : L ≤ 2560) (ht : 5 * t + 5 ≤ L) (htt : tt ≤ 50000) (hI : LI E X tt h sz) (kk : ∀ h' sz' k' n', LI E X (tt + 1) h' sz' → k ≤ k' → n ≤ n' → Ev E m_Lw_law (d + 62) 1484 [some (.ref b), some (.ref X), some (.ref (X + 78)), some (.ref (X + 107)), some (.int (nI (5 * t))), none, none] [] h' sz' k' n' Q) : Ev E m_Lw_law (d + 62) 1113 [some (.ref b), some (.ref X), some (.ref (X + 78)), some (.ref (X + 107)), some (.int (nI (5 * t))), none, none] [] h sz (k + 3) (n + 27) Q := by
  obtain ⟨nc, al, fl, c, mr, cc, ac, nu, on, op, th, af, ff, V, qs, N, ed, zs, cs, ad, F, A, T, π, cn, co, cq, oq, sn, o, hP, hs, hM, ho, hR, hal⟩ := hI
  obtain rfl : F 1 = mr := hR.1.1
  obtain rfl : F 2 = nc := hR.2.1.1
  obtain rfl : F 3 = ac := hR.2.2.2.1.1
  obtain rfl : F 5 = fl := hR.2.2.2.2.1.1
  have hcn : cnt T (F 1) = c := en_total hR.1.2.2.2.2.1
  have hc24 : c ≤ 24 := hR.1.2.2.1
  have hm120 : F 1 ≤ 120 := hR.1.2.1
  have hnc : F 2 ≤ 24 := hR.2.1.2.1
  have hT := hR.1.2.2.2.1
  have hS := hR.2.1.2.2.1
  have hok := hR.2.1.2.2.2.1
  have hZ := hR.2.1.2.2.2.2.1
  have hC := hR.2.2.1.1
  have hcc : cc ≤ 4 := hC.2.2.2.1
  have hon : ∀ i, i < cc → on i = nI (cn i) ∧ cn i < 4 := fun i hi => ⟨(hR.2.2.1.2 i hi).1, (hC.2.2.2.2 i hi).2.1⟩
  have hop : ∀ i, i < cc → op i = nI (co i) ∧ co i < 6 := fun i hi => ⟨(hR.2.2.1.2 i hi).2, (hC.2.2.2.2 i hi).2.2.2.1⟩
  have hps : ∀ i, i < c → ((fun j => okb cn co th (V j) cc) i = true ↔ okC cc cn co th (V i)) := fun i _ => okb_iff cc
  have hqn : ∀ s, s < 4 → (qs s).1 ≤ F 2 := fun s hs => (hR.2.2.2.2.2 s hs).1.2.1
  have hp24 := rw_24 (qc := cc) (a := cn) (b := co) (t := th) hR.1
  have hokT := hR.2.1.okT
  refine ev_aload_1 (ev_dt dt_Lw_law_11 29 rfl) ?_
  refine ev_aload_0 (ev_dt dt_Lw_law_11 30 rfl) ?_
  refine ev_iload_4 (ev_dt dt_Lw_law_11 31 rfl) ?_
  refine ev_ic1 (ev_dt dt_Lw_law_11 32 rfl) ?_
  refine ev_addn (ev_dt dt_Lw_law_11 33 rfl) ?_
  refine ev_sld (ev_dt dt_Lw_law_11 34 rfl) hX hb (by omega) (by omega) ?_
  refine ev_callV (ev_dt dt_Lw_law_11 35 rfl) v_Lw_129_0 hP.1 [.int (xs (5 * t + 1))] rfl np_PT_answer rfl (ev_lk_of (j := 0) rfl rfl) (t_PT_answer (d := d + 1) hR.2.2.2.1.2.1 hP (fun r hpk => ev_r1 ?_))
  refine ev_aload_2 (ev_dt dt_Lw_law_11 36 rfl) ?_
  refine ev_aload_0 (ev_dt dt_Lw_law_11 37 rfl) ?_
  refine ev_iload_4 (ev_dt dt_Lw_law_11 38 rfl) ?_
  refine ev_ic1 (ev_dt dt_Lw_law_11 39 rfl) ?_
  refine ev_addn (ev_dt dt_Lw_law_11 40 rfl) ?_
  refine ev_sld (ev_dt dt_Lw_law_11 41 rfl) hX hb (by omega) (by omega) ?_
  refine ev_callV (ev_dt dt_Lw_law_11 42 rfl) v_Lw_132_10 hM.1 [.int (xs (5 * t + 1))] rfl np_Md_answer rfl (ev_lk_of (j := 0) rfl rfl) (r_answer hM hR.2.2.2.1.2.1 (fun ex h2 hM2 hf2 => ev_r1 ?_) (fun ex hno h2 hM2 hf2 => ev_r1 ?_) (fun j hj ex h2 hM2 hf2 => ev_r1 ?_))
  · have hP2 := hP.byRef hf2
    have ho2 := (hf2 (X + 107) (Or.inr (by omega))).trans ho
    refine ev_icmp_eqT (tgt := 1484) (ev_dt dt_Lw_law_11 43 rfl) (by decide) ((pk_list (by have := hR.2.2.2.1.2.1; omega) hpk).1 ex) ?_
    refine ev_fg_5 (ev_fg_6 ?_)
    exact kk h2 _ _ _ (LI.mk hP2 hs hM2 ho2 hR.thr (by omega)) (by omega) (by omega)
  · have hP2 := hP.byRef hf2
    have ho2 := (hf2 (X + 107) (Or.inr (by omega))).trans ho
    refine ev_icmp_eqT (tgt := 1484) (ev_dt dt_Lw_law_11 43 rfl) (by decide) ((pk_list (by have := hR.2.2.2.1.2.1; omega) hpk).2.1 ex hno) ?_
    refine ev_fg_5 (ev_fg_6 ?_)
    exact kk h2 _ _ _ (LI.mk hP2 hs hM2 ho2 hR.thr (by omega)) (by omega) (by omega)
  · have hP2 := hP.byRef hf2
    have ho2 := (hf2 (X + 107) (Or.inr (by omega))).trans ho
    refine ev_icmp_eqT (tgt := 1484) (ev_dt dt_Lw_law_11 43 rfl) (by decide) (((pk_list (by have := hR.2.2.2.1.2.1; omega) hpk).2.2 j hj ex).trans (hR.2.2.2.1.2.2 j hj).symm) ?_
    refine ev_fg_5 (ev_fg_6 ?_)
    exact kk h2 _ _ _ (LI.mk hP2 hs hM2 ho2 hR.thr (by omega)) (by omega) (by omega)
theorem c_reason {E : ev_E} {X b L t tt d k n sz : Nat} {xs : Nat → Int32} {h : ev_h} {Q : ev_Q} (hE : ev_nok E) (hX : va_X b L xs E.2.2.2.1 E.2.2.2.1.heap) (hb : b < ev_b E) (hL : L ≤ 2560) (ht : 5 * t + 5 ≤ L) (htt : tt ≤ 50000) (hI : LI E X tt h sz) (kk : ∀ h' sz' k' n', LI E X (tt + 1) h' sz' → k ≤ k' → n ≤ n' → Ev E m_Lw_law (d + 62) 1484 [some (.ref b), some (.ref X), some (.ref (X + 78)), some (.ref (X + 107)), some (.int (nI (5 * t))), none, none] [] h' sz' k' n' Q) : Ev E m_Lw_law (d + 62) 1138 [some (.ref b), some (.ref X), some (.ref (X + 78)), some (.ref (X + 107)), some (.int (nI (5 * t))), none, none] [] h sz (k + 3) (n + 27) Q := by
  obtain ⟨nc, al, fl, c, mr, cc, ac, nu, on, op, th, af, ff, V, qs, N, ed, zs, cs, ad, F, A, T, π, cn, co, cq, oq, sn, o, hP, hs, hM, ho, hR, hal⟩ := hI
  obtain rfl : F 1 = mr := hR.1.1
  obtain rfl : F 2 = nc := hR.2.1.1
  obtain rfl : F 3 = ac := hR.2.2.2.1.1
  obtain rfl : F 5 = fl := hR.2.2.2.2.1.1
  have hcn : cnt T (F 1) = c := en_total hR.1.2.2.2.2.1
  have hc24 : c ≤ 24 := hR.1.2.2.1
  have hm120 : F 1 ≤ 120 := hR.1.2.1
  have hnc : F 2 ≤ 24 := hR.2.1.2.1
  have hT := hR.1.2.2.2.1
  have hS := hR.2.1.2.2.1
  have hok := hR.2.1.2.2.2.1
  have hZ := hR.2.1.2.2.2.2.1
  have hC := hR.2.2.1.1
  have hcc : cc ≤ 4 := hC.2.2.2.1
  have hon : ∀ i, i < cc → on i = nI (cn i) ∧ cn i < 4 := fun i hi => ⟨(hR.2.2.1.2 i hi).1, (hC.2.2.2.2 i hi).2.1⟩
  have hop : ∀ i, i < cc → op i = nI (co i) ∧ co i < 6 := fun i hi => ⟨(hR.2.2.1.2 i hi).2, (hC.2.2.2.2 i hi).2.2.2.1⟩
  have hps : ∀ i, i < c → ((fun j => okb cn co th (V j) cc) i = true ↔ okC cc cn co th (V i)) := fun i _ => okb_iff cc
  have hqn : ∀ s, s < 4 → (qs s).1 ≤ F 2 := fun s hs => (hR.2.2.2.2.2 s hs).1.2.1
  have hp24 := rw_24 (qc := cc) (a := cn) (b := co) (t := th) hR.1
  have hokT := hR.2.1.okT
  refine ev_aload_1 (ev_dt dt_Lw_law_11 46 rfl) ?_
  refine ev_aload_0 (ev_dt dt_Lw_law_11 47 rfl) ?_
  refine ev_iload_4 (ev_dt dt_Lw_law_11 48 rfl) ?_
  refine ev_ic1 (ev_dt dt_Lw_law_11 49 rfl) ?_
  refine ev_addn (ev_dt dt_Lw_law_11 50 rfl) ?_
  refine ev_sld (ev_dt dt_Lw_law_11 51 rfl) hX hb (by omega) (by omega) ?_
  refine ev_aload_0 (ev_dt dt_Lw_law_11 52 rfl) ?_
  refine ev_iload_4 (ev_dt dt_Lw_law_11 53 rfl) ?_
  refine ev_ic2 (ev_dt dt_Lw_law_11 54 rfl) ?_
  refine ev_addn (ev_dt dt_Lw_law_11 55 rfl) ?_
  refine ev_sld (ev_dt dt_Lw_law_11 56 rfl) hX hb (by omega) (by omega) ?_
  refine ev_aload_0 (ev_dt dt_Lw_law_11 57 rfl) ?_
  refine ev_iload_4 (ev_dt dt_Lw_law_11 58 rfl) ?_
  refine ev_ic3 (ev_dt dt_Lw_law_11 59 rfl) ?_
  refine ev_addn (ev_dt dt_Lw_law_12 0 rfl) ?_
  refine ev_sld (ev_dt dt_Lw_law_12 1 rfl) hX hb (by omega) (by omega) ?_
  refine ev_aload_0 (ev_dt dt_Lw_law_12 2 rfl) ?_
  refine ev_iload_4 (ev_dt dt_Lw_law_12 3 rfl) ?_
  refine ev_ic4 (ev_dt dt_Lw_law_12 4 rfl) ?_
  refine ev_addn (ev_dt dt_Lw_law_12 5 rfl) ?_
  refine ev_sld (ev_dt dt_Lw_law_12 6 rfl) hX hb (by omega) (by omega) ?_
  refine ev_aload_3 (ev_dt dt_Lw_law_12 7 rfl) ?_
  refine ev_callS (ev_dt dt_Lw_law_12 8 rfl) s_Lw_133 [.ref X, .int (xs (5 * t + 1)), .int (xs (5 * t + 2)), .int (xs (5 * t + 3)), .int (xs (5 * t + 4)), .ref (X + 107)] rfl np_Lw_reason rfl (ev_lk_of (j := 1) rfl rfl) ?_
  refine ev_aload_5 (ev_dt dt_Lw_reason_0 0 rfl) ?_
  refine ev_ic0 (ev_dt dt_Lw_reason_0 1 rfl) ?_
  refine ev_aload_0 (ev_dt dt_Lw_reason_0 2 rfl) ?_
  refine ev_iload_1 (ev_dt dt_Lw_reason_0 3 rfl) ?_
  refine ev_iload_2 (ev_dt dt_Lw_reason_0 4 rfl) ?_
  refine ev_iload_3 (ev_dt dt_Lw_reason_0 5 rfl) ?_
  refine ev_iload_4 (ev_dt dt_Lw_reason_0 6 rfl) ?_
  refine ev_callV (ev_dt dt_Lw_reason_0 7 rfl) v_Lw_53_0 hP.1 [.int (xs (5 * t + 1)), .int (xs (5 * t + 2)), .int (xs (5 * t + 3)), .int (xs (5 * t + 4))] rfl np_PT_reason rfl (ev_lk_of (j := 2) rfl rfl) (t_PT_reason (d := d) hE hnc hc24 hs hP (fun hx h1 hP1 hs1 hf1 he1 => ev_rt ?_) (fun i j1 j2 hi ex hj1 ey hj2 ez hne => ev_r1 ?_) (fun i j1 j2 hi ex hj1 ey hj2 ez heq => ev_r1 ?_))
  · have hM1 := hM.cF hf1
    have ho1 := (hf1 (X + 107) (by omega) (by omega)).trans ho
    refine ev_catch1 rfl rfl (by decide) wl_19 rfl wc_13 he1 ?_
    refine ev_astore_6 (ev_dt dt_Lw_reason_0 11 rfl) (by decide) rfl ?_
    refine ev_ic1 (ev_dt dt_Lw_reason_0 12 rfl) ?_
    refine ev_ireturn (ev_dt dt_Lw_reason_0 13 rfl) rfl rfl (ev_r1 ?_)
    refine ev_istore_5 (ev_dt dt_Lw_law_12 9 rfl) (by decide) rfl ?_
    refine ev_aload_2 (ev_dt dt_Lw_law_12 10 rfl) ?_
    refine ev_aload_0 (ev_dt dt_Lw_law_12 11 rfl) ?_
    refine ev_iload_4 (ev_dt dt_Lw_law_12 12 rfl) ?_
    refine ev_ic1 (ev_dt dt_Lw_law_12 13 rfl) ?_
    refine ev_addn (ev_dt dt_Lw_law_12 14 rfl) ?_
    refine ev_sld (ev_dt dt_Lw_law_12 15 rfl) hX hb (by omega) (by omega) ?_
    refine ev_aload_0 (ev_dt dt_Lw_law_12 16 rfl) ?_
    refine ev_iload_4 (ev_dt dt_Lw_law_12 17 rfl) ?_
    refine ev_ic2 (ev_dt dt_Lw_law_12 18 rfl) ?_
    refine ev_addn (ev_dt dt_Lw_law_12 19 rfl) ?_
    refine ev_sld (ev_dt dt_Lw_law_12 20 rfl) hX hb (by omega) (by omega) ?_
    refine ev_aload_0 (ev_dt dt_Lw_law_12 21 rfl) ?_
    refine ev_iload_4 (ev_dt dt_Lw_law_12 22 rfl) ?_
    refine ev_ic3 (ev_dt dt_Lw_law_12 23 rfl) ?_
    refine ev_addn (ev_dt dt_Lw_law_12 24 rfl) ?_
    refine ev_sld (ev_dt dt_Lw_law_12 25 rfl) hX hb (by omega) (by omega) ?_
    refine ev_aload_0 (ev_dt dt_Lw_law_12 26 rfl) ?_
    refine ev_iload_4 (ev_dt dt_Lw_law_12 27 rfl) ?_
    refine ev_ic4 (ev_dt dt_Lw_law_12 28 rfl) ?_
    refine ev_addn (ev_dt dt_Lw_law_12 29 rfl) ?_
    refine ev_sld (ev_dt dt_Lw_law_12 30 rfl) hX hb (by omega) (by omega) ?_
    refine ev_callV (ev_dt dt_Lw_law_12 31 rfl) v_Lw_135_10 hM1.1 [.int (xs (5 * t + 1)), .int (xs (5 * t + 2)), .int (xs (5 * t + 3)), .int (xs (5 * t + 4))] rfl np_Md_reason rfl (ev_lk_of (j := 7) rfl rfl) (r_reason (d := d + 57) hM1 hS hnc rfl hT hm120 (fun _ h2 hM2 hf2 => ev_r1 ?_) (fun i2 u2 v2 hi2 ex2 hu2 hTu ey2 hv2 hTv ez2 _ => False.elim (hx.elim (fun g => g i2 hi2 ex2) (fun g => g.elim (fun g => by obtain ⟨j', hj', ej', -⟩ := rw_in hR.1 hu2 hTu ey2; exact g j' hj' ej') (fun g => by obtain ⟨j', hj', ej', -⟩ := rw_in hR.1 hv2 hTv ez2; exact g j' hj' ej')))) (fun i2 u2 v2 hi2 ex2 hu2 hTu ey2 hv2 hTv ez2 _ _ => False.elim (hx.elim (fun g => g i2 hi2 ex2) (fun g => g.elim (fun g => by obtain ⟨j', hj', ej', -⟩ := rw_in hR.1 hu2 hTu ey2; exact g j' hj' ej') (fun g => by obtain ⟨j', hj', ej', -⟩ := rw_in hR.1 hv2 hTv ez2; exact g j' hj' ej')))) (fun i2 u2 v2 hi2 ex2 hu2 hTu ey2 hv2 hTv ez2 _ _ => False.elim (hx.elim (fun g => g i2 hi2 ex2) (fun g => g.elim (fun g => by obtain ⟨j', hj', ej', -⟩ := rw_in hR.1 hu2 hTu ey2; exact g j' hj' ej') (fun g => by obtain ⟨j', hj', ej', -⟩ := rw_in hR.1 hv2 hTv ez2; exact g j' hj' ej')))))
    have hP2 := hP1.byRef hf2
    have ho2 := (hf2 (X + 107) (Or.inr (by omega))).trans ho1
    refine ev_istore_6 (ev_dt dt_Lw_law_12 32 rfl) (by decide) rfl ?_
    refine ev_aload_2 (ev_dt dt_Lw_law_12 33 rfl) ?_
    refine ev_callV (ev_dt dt_Lw_law_12 34 rfl) v_Lw_75_10 hM2.1 [] rfl np_Md_thrown rfl (ev_lk_of (j := 0) rfl rfl) (r_thrown hM2 (ev_r1 ?_))
    refine ev_iload_5 (ev_dt dt_Lw_law_12 35 rfl) ?_
    refine ev_icmp_eqT (tgt := 1210) (ev_dt dt_Lw_law_12 36 rfl) (by decide) rfl ?_
    refine ev_iload_5 (ev_dt dt_Lw_law_12 39 rfl) ?_
    refine ev_if_neT (tgt := 1227) (ev_dt dt_Lw_law_12 40 rfl) (by decide) (by decide +kernel) ?_
    refine ev_goto (tgt := 1484) (ev_dt dt_Lw_law_12 50 rfl) (by decide) ?_
    refine ev_fg_5 (ev_fg_6 ?_)
    exact kk h2 _ _ _ (LI.mk hP2 hs1 hM2 ho2 hR.thr (by omega)) (by omega) (by omega)
  · refine ev_i2l (ev_dt dt_Lw_reason_0 8 rfl) rfl ?_
    refine ev_outS (ev_dt dt_Lw_reason_0 9 rfl) hP hM ho (fun h3 o3 hP3 hM3 ho3 hov3 => ?_)
    refine ev_goto (tgt := 21) (ev_dt dt_Lw_reason_0 10 rfl) (by decide) ?_
    refine ev_ic0 (ev_dt dt_Lw_reason_0 14 rfl) ?_
    refine ev_ireturn (ev_dt dt_Lw_reason_0 15 rfl) rfl rfl (ev_r1 ?_)
    refine ev_istore_5 (ev_dt dt_Lw_law_12 9 rfl) (by decide) rfl ?_
    refine ev_aload_2 (ev_dt dt_Lw_law_12 10 rfl) ?_
    refine ev_aload_0 (ev_dt dt_Lw_law_12 11 rfl) ?_
    refine ev_iload_4 (ev_dt dt_Lw_law_12 12 rfl) ?_
    refine ev_ic1 (ev_dt dt_Lw_law_12 13 rfl) ?_
    refine ev_addn (ev_dt dt_Lw_law_12 14 rfl) ?_
    refine ev_sld (ev_dt dt_Lw_law_12 15 rfl) hX hb (by omega) (by omega) ?_
    refine ev_aload_0 (ev_dt dt_Lw_law_12 16 rfl) ?_
    refine ev_iload_4 (ev_dt dt_Lw_law_12 17 rfl) ?_
    refine ev_ic2 (ev_dt dt_Lw_law_12 18 rfl) ?_
    refine ev_addn (ev_dt dt_Lw_law_12 19 rfl) ?_
    refine ev_sld (ev_dt dt_Lw_law_12 20 rfl) hX hb (by omega) (by omega) ?_
    refine ev_aload_0 (ev_dt dt_Lw_law_12 21 rfl) ?_
    refine ev_iload_4 (ev_dt dt_Lw_law_12 22 rfl) ?_
    refine ev_ic3 (ev_dt dt_Lw_law_12 23 rfl) ?_
    refine ev_addn (ev_dt dt_Lw_law_12 24 rfl) ?_
    refine ev_sld (ev_dt dt_Lw_law_12 25 rfl) hX hb (by omega) (by omega) ?_
    refine ev_aload_0 (ev_dt dt_Lw_law_12 26 rfl) ?_
    refine ev_iload_4 (ev_dt dt_Lw_law_12 27 rfl) ?_
    refine ev_ic4 (ev_dt dt_Lw_law_12 28 rfl) ?_
    refine ev_addn (ev_dt dt_Lw_law_12 29 rfl) ?_
    refine ev_sld (ev_dt dt_Lw_law_12 30 rfl) hX hb (by omega) (by omega) ?_
    refine ev_callV (ev_dt dt_Lw_law_12 31 rfl) v_Lw_135_10 hM3.1 [.int (xs (5 * t + 1)), .int (xs (5 * t + 2)), .int (xs (5 * t + 3)), .int (xs (5 * t + 4))] rfl np_Md_reason rfl (ev_lk_of (j := 7) rfl rfl) (r_reason (d := d + 57) hM3 hS hnc rfl hT hm120 (fun g => False.elim (g.elim (fun g => g i hi ex) (fun g => g.elim (fun g => g _ (rw_out hR.1 hj1 ey).1 (rw_out hR.1 hj1 ey).2.1 (rw_out hR.1 hj1 ey).2.2) (fun g => g _ (rw_out hR.1 hj2 ez).1 (rw_out hR.1 hj2 ez).2.1 (rw_out hR.1 hj2 ez).2.2)))) (fun i2 u2 v2 hi2 ex2 hu2 hTu ey2 hv2 hTv ez2 _ h2 A2 hA2 hM2 hf2 => ev_r1 ?_) (fun i2 u2 v2 hi2 ex2 hu2 hTu ey2 hv2 hTv ez2 _ _ h2 A2 hA2 hM2 hf2 => ev_r1 ?_) (fun i2 u2 v2 hi2 ex2 hu2 hTu ey2 hv2 hTv ez2 _ g => False.elim (by obtain rfl : i = i2 := nI_inj (by omega) (by omega) ex ex2; obtain rfl : u2 = π j1 := nI_inj (by omega) (by have := (rw_out hR.1 hj1 ey).1; omega) ey2 (rw_out hR.1 hj1 ey).2.2; obtain rfl : v2 = π j2 := nI_inj (by omega) (by have := (rw_out hR.1 hj2 ez).1; omega) ez2 (rw_out hR.1 hj2 ez).2.2; exact hne ((say_cg hokT (hR.1.2.2.2.2.2 j1 hj1).2 (hR.1.2.2.2.2.2 j2 hj2).2 i hi).trans g))))
    · have hP2 := hP3.byRef hf2
      have ho2 := (hf2 (X + 107) (Or.inr (by omega))).trans ho3
      refine ev_istore_6 (ev_dt dt_Lw_law_12 32 rfl) (by decide) rfl ?_
      refine ev_aload_2 (ev_dt dt_Lw_law_12 33 rfl) ?_
      refine ev_callV (ev_dt dt_Lw_law_12 34 rfl) v_Lw_75_10 hM2.1 [] rfl np_Md_thrown rfl (ev_lk_of (j := 0) rfl rfl) (r_thrown hM2 (ev_r1 ?_))
      refine ev_iload_5 (ev_dt dt_Lw_law_12 35 rfl) ?_
      refine ev_icmp_eqT (tgt := 1210) (ev_dt dt_Lw_law_12 36 rfl) (by decide) rfl ?_
      refine ev_iload_5 (ev_dt dt_Lw_law_12 39 rfl) ?_
      refine ev_if_neF (tgt := 1227) (ev_dt dt_Lw_law_12 40 rfl) (by decide) z00 ?_
      refine ev_aload_3 (ev_dt dt_Lw_law_12 41 rfl) ?_
      refine ev_ic0 (ev_dt dt_Lw_law_12 42 rfl) ?_
      refine ev_lald (ev_dt dt_Lw_law_12 43 rfl) ho2 (by omega) (by decide) hov3 ?_
      refine ev_iload_6 (ev_dt dt_Lw_law_12 44 rfl) ?_
      refine ev_i2l (ev_dt dt_Lw_law_12 45 rfl) rfl ?_
      refine ev_lcmp (ev_dt dt_Lw_law_12 46 rfl) ?_
      refine ev_if_eqT (tgt := 1227) (ev_dt dt_Lw_law_12 47 rfl) (by decide) (lgc rfl) ?_
      refine ev_goto (tgt := 1484) (ev_dt dt_Lw_law_12 50 rfl) (by decide) ?_
      refine ev_fg_5 (ev_fg_6 ?_)
      exact kk h2 _ _ _ (LI.mk hP2 hs hM2 ho2 (hR.scr (sA_scr hA2) rfl rfl rfl rfl) (by omega)) (by omega) (by omega)
    · have hP2 := hP3.byRef hf2
      have ho2 := (hf2 (X + 107) (Or.inr (by omega))).trans ho3
      refine ev_istore_6 (ev_dt dt_Lw_law_12 32 rfl) (by decide) rfl ?_
      refine ev_aload_2 (ev_dt dt_Lw_law_12 33 rfl) ?_
      refine ev_callV (ev_dt dt_Lw_law_12 34 rfl) v_Lw_75_10 hM2.1 [] rfl np_Md_thrown rfl (ev_lk_of (j := 0) rfl rfl) (r_thrown hM2 (ev_r1 ?_))
      refine ev_iload_5 (ev_dt dt_Lw_law_12 35 rfl) ?_
      refine ev_icmp_eqT (tgt := 1210) (ev_dt dt_Lw_law_12 36 rfl) (by decide) rfl ?_
      refine ev_iload_5 (ev_dt dt_Lw_law_12 39 rfl) ?_
      refine ev_if_neF (tgt := 1227) (ev_dt dt_Lw_law_12 40 rfl) (by decide) z00 ?_
      refine ev_aload_3 (ev_dt dt_Lw_law_12 41 rfl) ?_
      refine ev_ic0 (ev_dt dt_Lw_law_12 42 rfl) ?_
      refine ev_lald (ev_dt dt_Lw_law_12 43 rfl) ho2 (by omega) (by decide) hov3 ?_
      refine ev_iload_6 (ev_dt dt_Lw_law_12 44 rfl) ?_
      refine ev_i2l (ev_dt dt_Lw_law_12 45 rfl) rfl ?_
      refine ev_lcmp (ev_dt dt_Lw_law_12 46 rfl) ?_
      refine ev_if_eqT (tgt := 1227) (ev_dt dt_Lw_law_12 47 rfl) (by decide) (lgc rfl) ?_
      refine ev_goto (tgt := 1484) (ev_dt dt_Lw_law_12 50 rfl) (by decide) ?_
      refine ev_fg_5 (ev_fg_6 ?_)
      exact kk h2 _ _ _ (LI.mk hP2 hs hM2 ho2 (hR.scr (sA_scr hA2) rfl rfl rfl rfl) (by omega)) (by omega) (by omega)
  · refine ev_i2l (ev_dt dt_Lw_reason_0 8 rfl) rfl ?_
    refine ev_outS (ev_dt dt_Lw_reason_0 9 rfl) hP hM ho (fun h3 o3 hP3 hM3 ho3 hov3 => ?_)
    refine ev_goto (tgt := 21) (ev_dt dt_Lw_reason_0 10 rfl) (by decide) ?_
    refine ev_ic0 (ev_dt dt_Lw_reason_0 14 rfl) ?_
    refine ev_ireturn (ev_dt dt_Lw_reason_0 15 rfl) rfl rfl (ev_r1 ?_)
    refine ev_istore_5 (ev_dt dt_Lw_law_12 9 rfl) (by decide) rfl ?_
    refine ev_aload_2 (ev_dt dt_Lw_law_12 10 rfl) ?_
    refine ev_aload_0 (ev_dt dt_Lw_law_12 11 rfl) ?_
    refine ev_iload_4 (ev_dt dt_Lw_law_12 12 rfl) ?_
    refine ev_ic1 (ev_dt dt_Lw_law_12 13 rfl) ?_
    refine ev_addn (ev_dt dt_Lw_law_12 14 rfl) ?_
    refine ev_sld (ev_dt dt_Lw_law_12 15 rfl) hX hb (by omega) (by omega) ?_
    refine ev_aload_0 (ev_dt dt_Lw_law_12 16 rfl) ?_
    refine ev_iload_4 (ev_dt dt_Lw_law_12 17 rfl) ?_
    refine ev_ic2 (ev_dt dt_Lw_law_12 18 rfl) ?_
    refine ev_addn (ev_dt dt_Lw_law_12 19 rfl) ?_
    refine ev_sld (ev_dt dt_Lw_law_12 20 rfl) hX hb (by omega) (by omega) ?_
    refine ev_aload_0 (ev_dt dt_Lw_law_12 21 rfl) ?_
    refine ev_iload_4 (ev_dt dt_Lw_law_12 22 rfl) ?_
    refine ev_ic3 (ev_dt dt_Lw_law_12 23 rfl) ?_
    refine ev_addn (ev_dt dt_Lw_law_12 24 rfl) ?_
    refine ev_sld (ev_dt dt_Lw_law_12 25 rfl) hX hb (by omega) (by omega) ?_
    refine ev_aload_0 (ev_dt dt_Lw_law_12 26 rfl) ?_
    refine ev_iload_4 (ev_dt dt_Lw_law_12 27 rfl) ?_
    refine ev_ic4 (ev_dt dt_Lw_law_12 28 rfl) ?_
    refine ev_addn (ev_dt dt_Lw_law_12 29 rfl) ?_
    refine ev_sld (ev_dt dt_Lw_law_12 30 rfl) hX hb (by omega) (by omega) ?_
    refine ev_callV (ev_dt dt_Lw_law_12 31 rfl) v_Lw_135_10 hM3.1 [.int (xs (5 * t + 1)), .int (xs (5 * t + 2)), .int (xs (5 * t + 3)), .int (xs (5 * t + 4))] rfl np_Md_reason rfl (ev_lk_of (j := 7) rfl rfl) (r_reason (d := d + 57) hM3 hS hnc rfl hT hm120 (fun g => False.elim (g.elim (fun g => g i hi ex) (fun g => g.elim (fun g => g _ (rw_out hR.1 hj1 ey).1 (rw_out hR.1 hj1 ey).2.1 (rw_out hR.1 hj1 ey).2.2) (fun g => g _ (rw_out hR.1 hj2 ez).1 (rw_out hR.1 hj2 ez).2.1 (rw_out hR.1 hj2 ez).2.2)))) (fun i2 u2 v2 hi2 ex2 hu2 hTu ey2 hv2 hTv ez2 hq h2 A2 hA2 hM2 hf2 => ev_r1 ?_) (fun i2 u2 v2 hi2 ex2 hu2 hTu ey2 hv2 hTv ez2 _ g => False.elim (by obtain rfl : i = i2 := nI_inj (by omega) (by omega) ex ex2; obtain rfl : u2 = π j1 := nI_inj (by omega) (by have := (rw_out hR.1 hj1 ey).1; omega) ey2 (rw_out hR.1 hj1 ey).2.2; obtain rfl : v2 = π j2 := nI_inj (by omega) (by have := (rw_out hR.1 hj2 ez).1; omega) ez2 (rw_out hR.1 hj2 ez).2.2; exact g ((say_cg hokT (hR.1.2.2.2.2.2 j1 hj1).2 (hR.1.2.2.2.2.2 j2 hj2).2 i hi).symm.trans heq))) (fun i2 u2 v2 hi2 ex2 hu2 hTu ey2 hv2 hTv ez2 _ _ h2 A2 hA2 hM2 hf2 => ev_r1 ?_))
    · have hP2 := hP3.byRef hf2
      have ho2 := (hf2 (X + 107) (Or.inr (by omega))).trans ho3
      refine ev_istore_6 (ev_dt dt_Lw_law_12 32 rfl) (by decide) rfl ?_
      refine ev_aload_2 (ev_dt dt_Lw_law_12 33 rfl) ?_
      refine ev_callV (ev_dt dt_Lw_law_12 34 rfl) v_Lw_75_10 hM2.1 [] rfl np_Md_thrown rfl (ev_lk_of (j := 0) rfl rfl) (r_thrown hM2 (ev_r1 ?_))
      refine ev_iload_5 (ev_dt dt_Lw_law_12 35 rfl) ?_
      refine ev_icmp_eqT (tgt := 1210) (ev_dt dt_Lw_law_12 36 rfl) (by decide) rfl ?_
      refine ev_iload_5 (ev_dt dt_Lw_law_12 39 rfl) ?_
      refine ev_if_neF (tgt := 1227) (ev_dt dt_Lw_law_12 40 rfl) (by decide) z00 ?_
      refine ev_aload_3 (ev_dt dt_Lw_law_12 41 rfl) ?_
      refine ev_ic0 (ev_dt dt_Lw_law_12 42 rfl) ?_
      refine ev_lald (ev_dt dt_Lw_law_12 43 rfl) ho2 (by omega) (by decide) hov3 ?_
      refine ev_iload_6 (ev_dt dt_Lw_law_12 44 rfl) ?_
      refine ev_i2l (ev_dt dt_Lw_law_12 45 rfl) rfl ?_
      refine ev_lcmp (ev_dt dt_Lw_law_12 46 rfl) ?_
      refine ev_if_eqT (tgt := 1227) (ev_dt dt_Lw_law_12 47 rfl) (by decide) (lgc (by unfold wR; rw [if_neg (fun q => hq (Or.inl q)), if_neg (fun q => hq (Or.inr q))])) ?_
      refine ev_goto (tgt := 1484) (ev_dt dt_Lw_law_12 50 rfl) (by decide) ?_
      refine ev_fg_5 (ev_fg_6 ?_)
      exact kk h2 _ _ _ (LI.mk hP2 hs hM2 ho2 (hR.scr (sA_scr hA2) rfl rfl rfl rfl) (by omega)) (by omega) (by omega)
    · obtain rfl : i = i2 := nI_inj (by omega) (by omega) ex ex2
      obtain rfl : u2 = π j1 := nI_inj (by omega) (by have := (rw_out hR.1 hj1 ey).1; omega) ey2 (rw_out hR.1 hj1 ey).2.2
      obtain rfl : v2 = π j2 := nI_inj (by omega) (by have := (rw_out hR.1 hj2 ez).1; omega) ez2 (rw_out hR.1 hj2 ez).2.2
      have hP2 := hP3.byRef hf2
      have ho2 := (hf2 (X + 107) (Or.inr (by omega))).trans ho3
      refine ev_istore_6 (ev_dt dt_Lw_law_12 32 rfl) (by decide) rfl ?_
      refine ev_aload_2 (ev_dt dt_Lw_law_12 33 rfl) ?_
      refine ev_callV (ev_dt dt_Lw_law_12 34 rfl) v_Lw_75_10 hM2.1 [] rfl np_Md_thrown rfl (ev_lk_of (j := 0) rfl rfl) (r_thrown hM2 (ev_r1 ?_))
      refine ev_iload_5 (ev_dt dt_Lw_law_12 35 rfl) ?_
      refine ev_icmp_eqT (tgt := 1210) (ev_dt dt_Lw_law_12 36 rfl) (by decide) rfl ?_
      refine ev_iload_5 (ev_dt dt_Lw_law_12 39 rfl) ?_
      refine ev_if_neF (tgt := 1227) (ev_dt dt_Lw_law_12 40 rfl) (by decide) z00 ?_
      refine ev_aload_3 (ev_dt dt_Lw_law_12 41 rfl) ?_
      refine ev_ic0 (ev_dt dt_Lw_law_12 42 rfl) ?_
      refine ev_lald (ev_dt dt_Lw_law_12 43 rfl) ho2 (by omega) (by decide) hov3 ?_
      refine ev_iload_6 (ev_dt dt_Lw_law_12 44 rfl) ?_
      refine ev_i2l (ev_dt dt_Lw_law_12 45 rfl) rfl ?_
      refine ev_lcmp (ev_dt dt_Lw_law_12 46 rfl) ?_
      refine ev_if_eqT (tgt := 1227) (ev_dt dt_Lw_law_12 47 rfl) (by decide) (lgc (by rw [wk_cg hokT 23 _ _ _ _ (hR.1.2.2.2.2.2 j1 hj1).2 (hR.1.2.2.2.2.2 j2 hj2).2 i hi])) ?_
      refine ev_goto (tgt := 1484) (ev_dt dt_Lw_law_12 50 rfl) (by decide) ?_
      refine ev_fg_5 (ev_fg_6 ?_)
      exact kk h2 _ _ _ (LI.mk hP2 hs hM2 ho2 (hR.scr (sA_scr hA2) rfl rfl rfl rfl) (by omega)) (by omega) (by omega)
theorem c_save {E : ev_E} {X b L t tt d k n sz : Nat} {xs : Nat → Int32} {h : ev_h} {Q : ev_Q} (hE : ev_nok E) (hX : va_X b L xs E.2.2.2.1 E.2.2.2.1.heap) (hb : b < ev_b E) (hL : L ≤ 2560) (ht : 5 * t + 5 ≤ L) (htt : tt ≤ 50000) (hI : LI E X tt h sz) (kk : ∀ h' sz' k' n', LI E X (tt + 1) h' sz' → k ≤ k' → n ≤ n' → Ev E m_Lw_law (d + 62) 1484 [some (.ref b), some (.ref X), some (.ref (X + 78)), some (.ref (X + 107)), some (.int (nI (5 * t))), none, none] [] h' sz' k' n' Q) : Ev E m_Lw_law (d + 62) 1230 [some (.ref b), some (.ref X), some (.ref (X + 78)), some (.ref (X + 107)), some (.int (nI (5 * t))), none, none] [] h sz (k + 3) (n + 27) Q := by
  obtain ⟨nc, al, fl, c, mr, cc, ac, nu, on, op, th, af, ff, V, qs, N, ed, zs, cs, ad, F, A, T, π, cn, co, cq, oq, sn, o, hP, hs, hM, ho, hR, hal⟩ := hI
  obtain rfl : F 1 = mr := hR.1.1
  obtain rfl : F 2 = nc := hR.2.1.1
  obtain rfl : F 3 = ac := hR.2.2.2.1.1
  obtain rfl : F 5 = fl := hR.2.2.2.2.1.1
  have hcn : cnt T (F 1) = c := en_total hR.1.2.2.2.2.1
  have hc24 : c ≤ 24 := hR.1.2.2.1
  have hm120 : F 1 ≤ 120 := hR.1.2.1
  have hnc : F 2 ≤ 24 := hR.2.1.2.1
  have hT := hR.1.2.2.2.1
  have hS := hR.2.1.2.2.1
  have hok := hR.2.1.2.2.2.1
  have hZ := hR.2.1.2.2.2.2.1
  have hC := hR.2.2.1.1
  have hcc : cc ≤ 4 := hC.2.2.2.1
  have hon : ∀ i, i < cc → on i = nI (cn i) ∧ cn i < 4 := fun i hi => ⟨(hR.2.2.1.2 i hi).1, (hC.2.2.2.2 i hi).2.1⟩
  have hop : ∀ i, i < cc → op i = nI (co i) ∧ co i < 6 := fun i hi => ⟨(hR.2.2.1.2 i hi).2, (hC.2.2.2.2 i hi).2.2.2.1⟩
  have hps : ∀ i, i < c → ((fun j => okb cn co th (V j) cc) i = true ↔ okC cc cn co th (V i)) := fun i _ => okb_iff cc
  have hqn : ∀ s, s < 4 → (qs s).1 ≤ F 2 := fun s hs => (hR.2.2.2.2.2 s hs).1.2.1
  have hp24 := rw_24 (qc := cc) (a := cn) (b := co) (t := th) hR.1
  have hokT := hR.2.1.okT
  refine ev_aload_1 (ev_dt dt_Lw_law_12 51 rfl) ?_
  refine ev_aload_0 (ev_dt dt_Lw_law_12 52 rfl) ?_
  refine ev_iload_4 (ev_dt dt_Lw_law_12 53 rfl) ?_
  refine ev_ic1 (ev_dt dt_Lw_law_12 54 rfl) ?_
  refine ev_addn (ev_dt dt_Lw_law_12 55 rfl) ?_
  refine ev_sld (ev_dt dt_Lw_law_12 56 rfl) hX hb (by omega) (by omega) ?_
  refine ev_aload_0 (ev_dt dt_Lw_law_12 57 rfl) ?_
  refine ev_iload_4 (ev_dt dt_Lw_law_12 58 rfl) ?_
  refine ev_ic2 (ev_dt dt_Lw_law_12 59 rfl) ?_
  refine ev_addn (ev_dt dt_Lw_law_13 0 rfl) ?_
  refine ev_sld (ev_dt dt_Lw_law_13 1 rfl) hX hb (by omega) (by omega) ?_
  refine ev_aload_3 (ev_dt dt_Lw_law_13 2 rfl) ?_
  refine ev_callS (ev_dt dt_Lw_law_13 3 rfl) s_Lw_136 [.ref X, .int (xs (5 * t + 1)), .int (xs (5 * t + 2)), .ref (X + 107)] rfl np_Lw_save rfl (ev_lk_of (j := 1) rfl rfl) ?_
  refine ev_aload_3 (ev_dt dt_Lw_save_0 0 rfl) ?_
  refine ev_ic0 (ev_dt dt_Lw_save_0 1 rfl) ?_
  refine ev_aload_0 (ev_dt dt_Lw_save_0 2 rfl) ?_
  refine ev_iload_1 (ev_dt dt_Lw_save_0 3 rfl) ?_
  refine ev_iload_2 (ev_dt dt_Lw_save_0 4 rfl) ?_
  refine ev_callV (ev_dt dt_Lw_save_0 5 rfl) v_Lw_56_0 hP.1 [.int (xs (5 * t + 1)), .int (xs (5 * t + 2))] rfl np_PT_save rfl (ev_lk_of (j := 1) rfl rfl) (t_PT_save (d := d) (cn := cn) (co := co) (ps := fun j => okb cn co th (V j) cc) hc24 (show al ≤ 60000 by omega) hnc hok hcc hon hop hps (fun s b0 b1 b2 b3 b4 b5 b6 b7 b8 b9 hs' e => by have := (hR.2.2.2.2.2 s hs').1.2.2.1; rw [e] at this; exact this) hs hP (fun hx h1 hP1 hs1 hf1 he1 => ev_rt ?_) (fun s i hs' ex hi ey h1 on' op' th' c1' f1' f2' π' ho' hen' hf1' hf2' hP1 hf1 => ev_r1 ?_))
  · have hM1 := hM.cF hf1
    have ho1 := (hf1 (X + 107) (by omega) (by omega)).trans ho
    refine ev_catch1 rfl rfl (by decide) wl_19 rfl wc_13 he1 ?_
    refine ev_astore_4 (ev_dt dt_Lw_save_0 9 rfl) (by decide) rfl ?_
    refine ev_ic1 (ev_dt dt_Lw_save_0 10 rfl) ?_
    refine ev_ireturn (ev_dt dt_Lw_save_0 11 rfl) rfl rfl (ev_r1 ?_)
    refine ev_istore_5 (ev_dt dt_Lw_law_13 4 rfl) (by decide) rfl ?_
    refine ev_aload_2 (ev_dt dt_Lw_law_13 5 rfl) ?_
    refine ev_aload_0 (ev_dt dt_Lw_law_13 6 rfl) ?_
    refine ev_iload_4 (ev_dt dt_Lw_law_13 7 rfl) ?_
    refine ev_ic1 (ev_dt dt_Lw_law_13 8 rfl) ?_
    refine ev_addn (ev_dt dt_Lw_law_13 9 rfl) ?_
    refine ev_sld (ev_dt dt_Lw_law_13 10 rfl) hX hb (by omega) (by omega) ?_
    refine ev_aload_0 (ev_dt dt_Lw_law_13 11 rfl) ?_
    refine ev_iload_4 (ev_dt dt_Lw_law_13 12 rfl) ?_
    refine ev_ic2 (ev_dt dt_Lw_law_13 13 rfl) ?_
    refine ev_addn (ev_dt dt_Lw_law_13 14 rfl) ?_
    refine ev_sld (ev_dt dt_Lw_law_13 15 rfl) hX hb (by omega) (by omega) ?_
    refine ev_callV (ev_dt dt_Lw_law_13 16 rfl) v_Lw_138_10 hM1.1 [.int (xs (5 * t + 1)), .int (xs (5 * t + 2))] rfl np_Md_save rfl (ev_lk_of (j := 1) rfl rfl) (r_save (d := d + 55) hM1 hS hnc rfl hC hm120 (fun _ h2 hM2 hf2 => ev_r1 ?_) (fun s i hs' ex hi ey => False.elim (hx.elim (fun g => g s hs' ex) (fun g => g i hi ey))))
    have hP2 := hP1.byRef hf2
    have ho2 := (hf2 (X + 107) (Or.inr (by omega))).trans ho1
    refine ev_istore_6 (ev_dt dt_Lw_law_13 17 rfl) (by decide) rfl ?_
    refine ev_aload_2 (ev_dt dt_Lw_law_13 18 rfl) ?_
    refine ev_callV (ev_dt dt_Lw_law_13 19 rfl) v_Lw_75_10 hM2.1 [] rfl np_Md_thrown rfl (ev_lk_of (j := 0) rfl rfl) (r_thrown hM2 (ev_r1 ?_))
    refine ev_iload_5 (ev_dt dt_Lw_law_13 20 rfl) ?_
    refine ev_icmp_eqT (tgt := 1278) (ev_dt dt_Lw_law_13 21 rfl) (by decide) rfl ?_
    refine ev_iload_5 (ev_dt dt_Lw_law_13 24 rfl) ?_
    refine ev_if_neT (tgt := 1295) (ev_dt dt_Lw_law_13 25 rfl) (by decide) (by decide +kernel) ?_
    refine ev_goto (tgt := 1484) (ev_dt dt_Lw_law_13 35 rfl) (by decide) ?_
    refine ev_fg_5 (ev_fg_6 ?_)
    exact kk h2 _ _ _ (LI.mk hP2 hs1 hM2 ho2 hR.thr (by omega)) (by omega) (by omega)
  · have hM1 := hM.cF hf1
    have ho1 := (hf1 (X + 107) (by omega) (by omega)).trans ho
    refine ev_i2l (ev_dt dt_Lw_save_0 6 rfl) rfl ?_
    refine ev_outS (ev_dt dt_Lw_save_0 7 rfl) hP1 hM1 ho1 (fun h3 o3 hP3 hM3 ho3 hov3 => ?_)
    refine ev_goto (tgt := 17) (ev_dt dt_Lw_save_0 8 rfl) (by decide) ?_
    refine ev_ic0 (ev_dt dt_Lw_save_0 12 rfl) ?_
    refine ev_ireturn (ev_dt dt_Lw_save_0 13 rfl) rfl rfl (ev_r1 ?_)
    refine ev_istore_5 (ev_dt dt_Lw_law_13 4 rfl) (by decide) rfl ?_
    refine ev_aload_2 (ev_dt dt_Lw_law_13 5 rfl) ?_
    refine ev_aload_0 (ev_dt dt_Lw_law_13 6 rfl) ?_
    refine ev_iload_4 (ev_dt dt_Lw_law_13 7 rfl) ?_
    refine ev_ic1 (ev_dt dt_Lw_law_13 8 rfl) ?_
    refine ev_addn (ev_dt dt_Lw_law_13 9 rfl) ?_
    refine ev_sld (ev_dt dt_Lw_law_13 10 rfl) hX hb (by omega) (by omega) ?_
    refine ev_aload_0 (ev_dt dt_Lw_law_13 11 rfl) ?_
    refine ev_iload_4 (ev_dt dt_Lw_law_13 12 rfl) ?_
    refine ev_ic2 (ev_dt dt_Lw_law_13 13 rfl) ?_
    refine ev_addn (ev_dt dt_Lw_law_13 14 rfl) ?_
    refine ev_sld (ev_dt dt_Lw_law_13 15 rfl) hX hb (by omega) (by omega) ?_
    refine ev_callV (ev_dt dt_Lw_law_13 16 rfl) v_Lw_138_10 hM3.1 [.int (xs (5 * t + 1)), .int (xs (5 * t + 2))] rfl np_Md_save rfl (ev_lk_of (j := 1) rfl rfl) (r_save (d := d + 55) hM3 hS hnc rfl hC hm120 (fun g => False.elim (g.elim (fun g => g s hs' ex) (fun g => g i hi ey))) (fun s2 i2 hs2 ex2 hi2 ey2 h2 A1 A2 hQ2 hA2 h16 h16' hM2 hf2 => ev_r1 ?_))
    obtain rfl : s = s2 := nI_inj (by omega) (by omega) ex ex2
    obtain rfl : i = i2 := nI_inj (by omega) (by omega) ey ey2
    obtain ⟨w1, w2⟩ := rw_cur hR.1 hokT hi hC hen' hf1'
    have hP2 := hP3.byRef hf2
    have ho2 := (hf2 (X + 107) (Or.inr (by omega))).trans ho3
    refine ev_istore_6 (ev_dt dt_Lw_law_13 17 rfl) (by decide) rfl ?_
    refine ev_aload_2 (ev_dt dt_Lw_law_13 18 rfl) ?_
    refine ev_callV (ev_dt dt_Lw_law_13 19 rfl) v_Lw_75_10 hM2.1 [] rfl np_Md_thrown rfl (ev_lk_of (j := 0) rfl rfl) (r_thrown hM2 (ev_r1 ?_))
    refine ev_iload_5 (ev_dt dt_Lw_law_13 20 rfl) ?_
    refine ev_icmp_eqT (tgt := 1278) (ev_dt dt_Lw_law_13 21 rfl) (by decide) rfl ?_
    refine ev_iload_5 (ev_dt dt_Lw_law_13 24 rfl) ?_
    refine ev_if_neF (tgt := 1295) (ev_dt dt_Lw_law_13 25 rfl) (by decide) z00 ?_
    refine ev_aload_3 (ev_dt dt_Lw_law_13 26 rfl) ?_
    refine ev_ic0 (ev_dt dt_Lw_law_13 27 rfl) ?_
    refine ev_lald (ev_dt dt_Lw_law_13 28 rfl) ho2 (by omega) (by decide) hov3 ?_
    refine ev_iload_6 (ev_dt dt_Lw_law_13 29 rfl) ?_
    refine ev_i2l (ev_dt dt_Lw_law_13 30 rfl) rfl ?_
    refine ev_lcmp (ev_dt dt_Lw_law_13 31 rfl) ?_
    refine ev_if_eqT (tgt := 1295) (ev_dt dt_Lw_law_13 32 rfl) (by decide) (lgc (congrArg nI (en_total w1).symm)) ?_
    refine ev_goto (tgt := 1484) (ev_dt dt_Lw_law_13 35 rfl) (by decide) ?_
    refine ev_fg_5 (ev_fg_6 ?_)
    exact kk h2 _ _ _ (LI.mk hP2 hs hM2 ho2 (kp_save hR hs' hi ho' w1 w2 hf2' hQ2 hA2 h16 h16') (by omega)) (by omega) (by omega)
