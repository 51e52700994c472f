/-! The law's cases (written by gen_law.py over walk.py). -/
theorem c_row {E : ev_E} {X b L t tt d k n sz : Nat} {xs : Nat → Int32} {h : ev_h} {Q : ev_Q} (hE : ev_nok E) (hX : va_X b L xs E.2.2.2.1 E.2.2.2.1.heap) (hb : b < ev_b E) (hL : L ≤ 2560) (ht : 5 * t + 5 ≤ L) (htt : tt ≤ 50000) (hI : LI E X tt h sz) (kk : ∀ h' sz' k' n', LI E X (tt + 1) h' sz' → k ≤ k' → n ≤ n' → Ev E m_Lw_law (d + 62) 1484 [some (.ref b), some (.ref X), some (.ref (X + 78)), some (.ref (X + 107)), some (.int (nI (5 * t))), none, none] [] h' sz' k' n' Q) : Ev E m_Lw_law (d + 62) 140 [some (.ref b), some (.ref X), some (.ref (X + 78)), some (.ref (X + 107)), some (.int (nI (5 * t))), none, none] [] h sz (k + 3) (n + 27) Q := by
  obtain ⟨nc, al, fl, c, mr, cc, ac, nu, on, op, th, af, ff, V, qs, N, ed, zs, cs, ad, F, A, T, π, cn, co, cq, oq, sn, o, hP, hs, hM, ho, hR, hal⟩ := hI
  obtain rfl : F 1 = mr := hR.1.1
  obtain rfl : F 2 = nc := hR.2.1.1
  obtain rfl : F 3 = ac := hR.2.2.2.1.1
  obtain rfl : F 5 = fl := hR.2.2.2.2.1.1
  have hcn : cnt T (F 1) = c := en_total hR.1.2.2.2.2.1
  have hc24 : c ≤ 24 := hR.1.2.2.1
  have hm120 : F 1 ≤ 120 := hR.1.2.1
  have hnc : F 2 ≤ 24 := hR.2.1.2.1
  have hT := hR.1.2.2.2.1
  have hS := hR.2.1.2.2.1
  have hok := hR.2.1.2.2.2.1
  have hZ := hR.2.1.2.2.2.2.1
  have hC := hR.2.2.1.1
  have hcc : cc ≤ 4 := hC.2.2.2.1
  have hon : ∀ i, i < cc → on i = nI (cn i) ∧ cn i < 4 := fun i hi => ⟨(hR.2.2.1.2 i hi).1, (hC.2.2.2.2 i hi).2.1⟩
  have hop : ∀ i, i < cc → op i = nI (co i) ∧ co i < 6 := fun i hi => ⟨(hR.2.2.1.2 i hi).2, (hC.2.2.2.2 i hi).2.2.2.1⟩
  have hps : ∀ i, i < c → ((fun j => okb cn co th (V j) cc) i = true ↔ okC cc cn co th (V i)) := fun i _ => okb_iff cc
  have hqn : ∀ s, s < 4 → (qs s).1 ≤ F 2 := fun s hs => (hR.2.2.2.2.2 s hs).1.2.1
  have hp24 := rw_24 (qc := cc) (a := cn) (b := co) (t := th) hR.1
  have hokT := hR.2.1.okT
  refine ev_aload_1 (ev_dt dt_Lw_law_0 25 rfl) ?_
  refine ev_aload_0 (ev_dt dt_Lw_law_0 26 rfl) ?_
  refine ev_iload_4 (ev_dt dt_Lw_law_0 27 rfl) ?_
  refine ev_ic1 (ev_dt dt_Lw_law_0 28 rfl) ?_
  refine ev_addn (ev_dt dt_Lw_law_0 29 rfl) ?_
  refine ev_sld (ev_dt dt_Lw_law_0 30 rfl) hX hb (by omega) (by omega) ?_
  refine ev_aload_0 (ev_dt dt_Lw_law_0 31 rfl) ?_
  refine ev_iload_4 (ev_dt dt_Lw_law_0 32 rfl) ?_
  refine ev_ic2 (ev_dt dt_Lw_law_0 33 rfl) ?_
  refine ev_addn (ev_dt dt_Lw_law_0 34 rfl) ?_
  refine ev_sld (ev_dt dt_Lw_law_0 35 rfl) hX hb (by omega) (by omega) ?_
  refine ev_aload_0 (ev_dt dt_Lw_law_0 36 rfl) ?_
  refine ev_iload_4 (ev_dt dt_Lw_law_0 37 rfl) ?_
  refine ev_ic3 (ev_dt dt_Lw_law_0 38 rfl) ?_
  refine ev_addn (ev_dt dt_Lw_law_0 39 rfl) ?_
  refine ev_sld (ev_dt dt_Lw_law_0 40 rfl) hX hb (by omega) (by omega) ?_
  refine ev_aload_0 (ev_dt dt_Lw_law_0 41 rfl) ?_
  refine ev_iload_4 (ev_dt dt_Lw_law_0 42 rfl) ?_
  refine ev_ic4 (ev_dt dt_Lw_law_0 43 rfl) ?_
  refine ev_addn (ev_dt dt_Lw_law_0 44 rfl) ?_
  refine ev_sld (ev_dt dt_Lw_law_0 45 rfl) hX hb (by omega) (by omega) ?_
  refine ev_aload_3 (ev_dt dt_Lw_law_0 46 rfl) ?_
  refine ev_callS (ev_dt dt_Lw_law_0 47 rfl) s_Lw_69 [.ref X, .int (xs (5 * t + 1)), .int (xs (5 * t + 2)), .int (xs (5 * t + 3)), .int (xs (5 * t + 4)), .ref (X + 107)] rfl np_Lw_row rfl (ev_lk_of (j := 1) rfl rfl) ?_
  refine ev_aload_5 (ev_dt dt_Lw_row_0 0 rfl) ?_
  refine ev_ic0 (ev_dt dt_Lw_row_0 1 rfl) ?_
  refine ev_aload_0 (ev_dt dt_Lw_row_0 2 rfl) ?_
  refine ev_iload_1 (ev_dt dt_Lw_row_0 3 rfl) ?_
  refine ev_iload_2 (ev_dt dt_Lw_row_0 4 rfl) ?_
  refine ev_iload_3 (ev_dt dt_Lw_row_0 5 rfl) ?_
  refine ev_iload_4 (ev_dt dt_Lw_row_0 6 rfl) ?_
  refine ev_callV (ev_dt dt_Lw_row_0 7 rfl) v_Lw_7_0 hP.1 [.int (xs (5 * t + 1)), .int (xs (5 * t + 2)), .int (xs (5 * t + 3)), .int (xs (5 * t + 4))] rfl np_PT_row rfl (ev_lk_of (j := 0) rfl rfl) (t_PT_row (d := d) hc24 hm120 hs hP (fun hx h1 hP1 hs1 hf1 he1 => ev_rt ?_) (fun hx1 hx2 h1 hP1 hf1 => ev_r1 ?_))
  · have hM1 := hM.cF hf1
    have ho1 := (hf1 (X + 107) (by omega) (by omega)).trans ho
    refine ev_catch1 rfl rfl (by decide) wl_13 rfl wc_11 he1 ?_
    refine ev_astore_6 (ev_dt dt_Lw_row_0 11 rfl) (by decide) rfl ?_
    refine ev_ic1 (ev_dt dt_Lw_row_0 12 rfl) ?_
    refine ev_ireturn (ev_dt dt_Lw_row_0 13 rfl) rfl rfl (ev_r1 ?_)
    refine ev_istore_5 (ev_dt dt_Lw_law_0 48 rfl) (by decide) rfl ?_
    refine ev_aload_2 (ev_dt dt_Lw_law_0 49 rfl) ?_
    refine ev_aload_0 (ev_dt dt_Lw_law_0 50 rfl) ?_
    refine ev_iload_4 (ev_dt dt_Lw_law_0 51 rfl) ?_
    refine ev_ic1 (ev_dt dt_Lw_law_0 52 rfl) ?_
    refine ev_addn (ev_dt dt_Lw_law_0 53 rfl) ?_
    refine ev_sld (ev_dt dt_Lw_law_0 54 rfl) hX hb (by omega) (by omega) ?_
    refine ev_aload_0 (ev_dt dt_Lw_law_0 55 rfl) ?_
    refine ev_iload_4 (ev_dt dt_Lw_law_0 56 rfl) ?_
    refine ev_ic2 (ev_dt dt_Lw_law_0 57 rfl) ?_
    refine ev_addn (ev_dt dt_Lw_law_0 58 rfl) ?_
    refine ev_sld (ev_dt dt_Lw_law_0 59 rfl) hX hb (by omega) (by omega) ?_
    refine ev_aload_0 (ev_dt dt_Lw_law_1 0 rfl) ?_
    refine ev_iload_4 (ev_dt dt_Lw_law_1 1 rfl) ?_
    refine ev_ic3 (ev_dt dt_Lw_law_1 2 rfl) ?_
    refine ev_addn (ev_dt dt_Lw_law_1 3 rfl) ?_
    refine ev_sld (ev_dt dt_Lw_law_1 4 rfl) hX hb (by omega) (by omega) ?_
    refine ev_aload_0 (ev_dt dt_Lw_law_1 5 rfl) ?_
    refine ev_iload_4 (ev_dt dt_Lw_law_1 6 rfl) ?_
    refine ev_ic4 (ev_dt dt_Lw_law_1 7 rfl) ?_
    refine ev_addn (ev_dt dt_Lw_law_1 8 rfl) ?_
    refine ev_sld (ev_dt dt_Lw_law_1 9 rfl) hX hb (by omega) (by omega) ?_
    refine ev_callV (ev_dt dt_Lw_law_1 10 rfl) v_Lw_74_10 hM1.1 [.int (xs (5 * t + 1)), .int (xs (5 * t + 2)), .int (xs (5 * t + 3)), .int (xs (5 * t + 4))] rfl np_Md_row rfl (ev_lk_of (j := 0) rfl rfl) (r_row (d := d + 60) hT hM1 hm120 (fun _ h2 hM2 hf2 => ev_r1 ?_) (fun g1 g2 => False.elim (by omega)))
    have hP2 := hP1.byRef hf2
    have ho2 := (hf2 (X + 107) (Or.inr (by omega))).trans ho1
    refine ev_istore_6 (ev_dt dt_Lw_law_1 11 rfl) (by decide) rfl ?_
    refine ev_aload_2 (ev_dt dt_Lw_law_1 12 rfl) ?_
    refine ev_callV (ev_dt dt_Lw_law_1 13 rfl) v_Lw_75_10 hM2.1 [] rfl np_Md_thrown rfl (ev_lk_of (j := 0) rfl rfl) (r_thrown hM2 (ev_r1 ?_))
    refine ev_iload_5 (ev_dt dt_Lw_law_1 14 rfl) ?_
    refine ev_icmp_eqT (tgt := 212) (ev_dt dt_Lw_law_1 15 rfl) (by decide) rfl ?_
    refine ev_iload_5 (ev_dt dt_Lw_law_1 18 rfl) ?_
    refine ev_if_neT (tgt := 229) (ev_dt dt_Lw_law_1 19 rfl) (by decide) (by decide +kernel) ?_
    refine ev_goto (tgt := 1484) (ev_dt dt_Lw_law_1 29 rfl) (by decide) ?_
    refine ev_fg_5 (ev_fg_6 ?_)
    exact kk h2 _ _ _ (LI.mk hP2 hs1 hM2 ho2 hR.thr (by omega)) (by omega) (by omega)
  · have hM1 := hM.cF hf1
    have ho1 := (hf1 (X + 107) (by omega) (by omega)).trans ho
    refine ev_i2l (ev_dt dt_Lw_row_0 8 rfl) rfl ?_
    refine ev_outS (ev_dt dt_Lw_row_0 9 rfl) hP1 hM1 ho1 (fun h3 o3 hP3 hM3 ho3 hov3 => ?_)
    refine ev_goto (tgt := 21) (ev_dt dt_Lw_row_0 10 rfl) (by decide) ?_
    refine ev_ic0 (ev_dt dt_Lw_row_0 14 rfl) ?_
    refine ev_ireturn (ev_dt dt_Lw_row_0 15 rfl) rfl rfl (ev_r1 ?_)
    refine ev_istore_5 (ev_dt dt_Lw_law_0 48 rfl) (by decide) rfl ?_
    refine ev_aload_2 (ev_dt dt_Lw_law_0 49 rfl) ?_
    refine ev_aload_0 (ev_dt dt_Lw_law_0 50 rfl) ?_
    refine ev_iload_4 (ev_dt dt_Lw_law_0 51 rfl) ?_
    refine ev_ic1 (ev_dt dt_Lw_law_0 52 rfl) ?_
    refine ev_addn (ev_dt dt_Lw_law_0 53 rfl) ?_
    refine ev_sld (ev_dt dt_Lw_law_0 54 rfl) hX hb (by omega) (by omega) ?_
    refine ev_aload_0 (ev_dt dt_Lw_law_0 55 rfl) ?_
    refine ev_iload_4 (ev_dt dt_Lw_law_0 56 rfl) ?_
    refine ev_ic2 (ev_dt dt_Lw_law_0 57 rfl) ?_
    refine ev_addn (ev_dt dt_Lw_law_0 58 rfl) ?_
    refine ev_sld (ev_dt dt_Lw_law_0 59 rfl) hX hb (by omega) (by omega) ?_
    refine ev_aload_0 (ev_dt dt_Lw_law_1 0 rfl) ?_
    refine ev_iload_4 (ev_dt dt_Lw_law_1 1 rfl) ?_
    refine ev_ic3 (ev_dt dt_Lw_law_1 2 rfl) ?_
    refine ev_addn (ev_dt dt_Lw_law_1 3 rfl) ?_
    refine ev_sld (ev_dt dt_Lw_law_1 4 rfl) hX hb (by omega) (by omega) ?_
    refine ev_aload_0 (ev_dt dt_Lw_law_1 5 rfl) ?_
    refine ev_iload_4 (ev_dt dt_Lw_law_1 6 rfl) ?_
    refine ev_ic4 (ev_dt dt_Lw_law_1 7 rfl) ?_
    refine ev_addn (ev_dt dt_Lw_law_1 8 rfl) ?_
    refine ev_sld (ev_dt dt_Lw_law_1 9 rfl) hX hb (by omega) (by omega) ?_
    refine ev_callV (ev_dt dt_Lw_law_1 10 rfl) v_Lw_74_10 hM3.1 [.int (xs (5 * t + 1)), .int (xs (5 * t + 2)), .int (xs (5 * t + 3)), .int (xs (5 * t + 4))] rfl np_Md_row rfl (ev_lk_of (j := 0) rfl rfl) (r_row (d := d + 60) hT hM3 hm120 (fun g => False.elim (by omega)) (fun _ _ h2 hM2 hf2 => ev_r1 ?_))
    have hP2 := hP3.byRef hf2
    have ho2 := (hf2 (X + 107) (Or.inr (by omega))).trans ho3
    refine ev_istore_6 (ev_dt dt_Lw_law_1 11 rfl) (by decide) rfl ?_
    refine ev_aload_2 (ev_dt dt_Lw_law_1 12 rfl) ?_
    refine ev_callV (ev_dt dt_Lw_law_1 13 rfl) v_Lw_75_10 hM2.1 [] rfl np_Md_thrown rfl (ev_lk_of (j := 0) rfl rfl) (r_thrown hM2 (ev_r1 ?_))
    refine ev_iload_5 (ev_dt dt_Lw_law_1 14 rfl) ?_
    refine ev_icmp_eqT (tgt := 212) (ev_dt dt_Lw_law_1 15 rfl) (by decide) rfl ?_
    refine ev_iload_5 (ev_dt dt_Lw_law_1 18 rfl) ?_
    refine ev_if_neF (tgt := 229) (ev_dt dt_Lw_law_1 19 rfl) (by decide) z00 ?_
    refine ev_aload_3 (ev_dt dt_Lw_law_1 20 rfl) ?_
    refine ev_ic0 (ev_dt dt_Lw_law_1 21 rfl) ?_
    refine ev_lald (ev_dt dt_Lw_law_1 22 rfl) ho2 (by omega) (by decide) hov3 ?_
    refine ev_iload_6 (ev_dt dt_Lw_law_1 23 rfl) ?_
    refine ev_i2l (ev_dt dt_Lw_law_1 24 rfl) rfl ?_
    refine ev_lcmp (ev_dt dt_Lw_law_1 25 rfl) ?_
    refine ev_if_eqT (tgt := 229) (ev_dt dt_Lw_law_1 26 rfl) (by decide) (lgc rfl) ?_
    refine ev_goto (tgt := 1484) (ev_dt dt_Lw_law_1 29 rfl) (by decide) ?_
    refine ev_fg_5 (ev_fg_6 ?_)
    exact kk h2 _ _ _ (LI.mk hP2 hs hM2 ho2 (kp_row hR hx1 hx2) (by omega)) (by omega) (by omega)
theorem c_change {E : ev_E} {X b L t tt d k n sz : Nat} {xs : Nat → Int32} {h : ev_h} {Q : ev_Q} (hE : ev_nok E) (hX : va_X b L xs E.2.2.2.1 E.2.2.2.1.heap) (hb : b < ev_b E) (hL : L ≤ 2560) (ht : 5 * t + 5 ≤ L) (htt : tt ≤ 50000) (hI : LI E X tt h sz) (kk : ∀ h' sz' k' n', LI E X (tt + 1) h' sz' → k ≤ k' → n ≤ n' → Ev E m_Lw_law (d + 62) 1484 [some (.ref b), some (.ref X), some (.ref (X + 78)), some (.ref (X + 107)), some (.int (nI (5 * t))), none, none] [] h' sz' k' n' Q) : Ev E m_Lw_law (d + 62) 232 [some (.ref b), some (.ref X), some (.ref (X + 78)), some (.ref (X + 107)), some (.int (nI (5 * t))), none, none] [] h sz (k + 3) (n + 27) Q := by
  obtain ⟨nc, al, fl, c, mr, cc, ac, nu, on, op, th, af, ff, V, qs, N, ed, zs, cs, ad, F, A, T, π, cn, co, cq, oq, sn, o, hP, hs, hM, ho, hR, hal⟩ := hI
  obtain rfl : F 1 = mr := hR.1.1
  obtain rfl : F 2 = nc := hR.2.1.1
  obtain rfl : F 3 = ac := hR.2.2.2.1.1
  obtain rfl : F 5 = fl := hR.2.2.2.2.1.1
  have hcn : cnt T (F 1) = c := en_total hR.1.2.2.2.2.1
  have hc24 : c ≤ 24 := hR.1.2.2.1
  have hm120 : F 1 ≤ 120 := hR.1.2.1
  have hnc : F 2 ≤ 24 := hR.2.1.2.1
  have hT := hR.1.2.2.2.1
  have hS := hR.2.1.2.2.1
  have hok := hR.2.1.2.2.2.1
  have hZ := hR.2.1.2.2.2.2.1
  have hC := hR.2.2.1.1
  have hcc : cc ≤ 4 := hC.2.2.2.1
  have hon : ∀ i, i < cc → on i = nI (cn i) ∧ cn i < 4 := fun i hi => ⟨(hR.2.2.1.2 i hi).1, (hC.2.2.2.2 i hi).2.1⟩
  have hop : ∀ i, i < cc → op i = nI (co i) ∧ co i < 6 := fun i hi => ⟨(hR.2.2.1.2 i hi).2, (hC.2.2.2.2 i hi).2.2.2.1⟩
  have hps : ∀ i, i < c → ((fun j => okb cn co th (V j) cc) i = true ↔ okC cc cn co th (V i)) := fun i _ => okb_iff cc
  have hqn : ∀ s, s < 4 → (qs s).1 ≤ F 2 := fun s hs => (hR.2.2.2.2.2 s hs).1.2.1
  have hp24 := rw_24 (qc := cc) (a := cn) (b := co) (t := th) hR.1
  have hokT := hR.2.1.okT
  refine ev_aload_1 (ev_dt dt_Lw_law_1 30 rfl) ?_
  refine ev_aload_0 (ev_dt dt_Lw_law_1 31 rfl) ?_
  refine ev_iload_4 (ev_dt dt_Lw_law_1 32 rfl) ?_
  refine ev_ic1 (ev_dt dt_Lw_law_1 33 rfl) ?_
  refine ev_addn (ev_dt dt_Lw_law_1 34 rfl) ?_
  refine ev_sld (ev_dt dt_Lw_law_1 35 rfl) hX hb (by omega) (by omega) ?_
  refine ev_aload_0 (ev_dt dt_Lw_law_1 36 rfl) ?_
  refine ev_iload_4 (ev_dt dt_Lw_law_1 37 rfl) ?_
  refine ev_ic2 (ev_dt dt_Lw_law_1 38 rfl) ?_
  refine ev_addn (ev_dt dt_Lw_law_1 39 rfl) ?_
  refine ev_sld (ev_dt dt_Lw_law_1 40 rfl) hX hb (by omega) (by omega) ?_
  refine ev_aload_0 (ev_dt dt_Lw_law_1 41 rfl) ?_
  refine ev_iload_4 (ev_dt dt_Lw_law_1 42 rfl) ?_
  refine ev_ic3 (ev_dt dt_Lw_law_1 43 rfl) ?_
  refine ev_addn (ev_dt dt_Lw_law_1 44 rfl) ?_
  refine ev_sld (ev_dt dt_Lw_law_1 45 rfl) hX hb (by omega) (by omega) ?_
  refine ev_callV (ev_dt dt_Lw_law_1 46 rfl) v_Lw_79_0 hP.1 [.int (xs (5 * t + 1)), .int (xs (5 * t + 2)), .int (xs (5 * t + 3))] rfl np_PT_change rfl (ev_lk_of (j := 1) rfl rfl) (t_PT_change (d := d + 1) hc24 hP (fun hx => ev_r1 ?_) (fun j l hj hnu hl hy h1 hP1 hf1 => ev_r1 ?_))
  · refine ev_aload_2 (ev_dt dt_Lw_law_1 47 rfl) ?_
    refine ev_aload_0 (ev_dt dt_Lw_law_1 48 rfl) ?_
    refine ev_iload_4 (ev_dt dt_Lw_law_1 49 rfl) ?_
    refine ev_ic1 (ev_dt dt_Lw_law_1 50 rfl) ?_
    refine ev_addn (ev_dt dt_Lw_law_1 51 rfl) ?_
    refine ev_sld (ev_dt dt_Lw_law_1 52 rfl) hX hb (by omega) (by omega) ?_
    refine ev_aload_0 (ev_dt dt_Lw_law_1 53 rfl) ?_
    refine ev_iload_4 (ev_dt dt_Lw_law_1 54 rfl) ?_
    refine ev_ic2 (ev_dt dt_Lw_law_1 55 rfl) ?_
    refine ev_addn (ev_dt dt_Lw_law_1 56 rfl) ?_
    refine ev_sld (ev_dt dt_Lw_law_1 57 rfl) hX hb (by omega) (by omega) ?_
    refine ev_aload_0 (ev_dt dt_Lw_law_1 58 rfl) ?_
    refine ev_iload_4 (ev_dt dt_Lw_law_1 59 rfl) ?_
    refine ev_ic3 (ev_dt dt_Lw_law_2 0 rfl) ?_
    refine ev_addn (ev_dt dt_Lw_law_2 1 rfl) ?_
    refine ev_sld (ev_dt dt_Lw_law_2 2 rfl) hX hb (by omega) (by omega) ?_
    refine ev_callV (ev_dt dt_Lw_law_2 3 rfl) v_Lw_82_10 hM.1 [.int (xs (5 * t + 1)), .int (xs (5 * t + 2)), .int (xs (5 * t + 3))] rfl np_Md_change rfl (ev_lk_of (j := 0) rfl rfl) (r_change (d := d + 60) hT hM hm120 (fun _ h2 hM2 hf2 => ev_r1 ?_) (fun r l hr hTr ex hl ey => False.elim (hx.elim (fun g => by obtain ⟨j', hj', ej', -⟩ := rw_in hR.1 hr hTr ex; exact g j' hj' ej') (fun g => g l hl ey))))
    have hP2 := hP.byRef hf2
    have ho2 := (hf2 (X + 107) (Or.inr (by omega))).trans ho
    refine ev_icmp_eqT (tgt := 1484) (ev_dt dt_Lw_law_2 4 rfl) (by decide) rfl ?_
    refine ev_fg_5 (ev_fg_6 ?_)
    exact kk h2 _ _ _ (LI.mk hP2 hs hM2 ho2 hR.thr (by omega)) (by omega) (by omega)
  · have hM1 := hM.cF hf1
    have ho1 := (hf1 (X + 107) (by omega) (by omega)).trans ho
    refine ev_aload_2 (ev_dt dt_Lw_law_1 47 rfl) ?_
    refine ev_aload_0 (ev_dt dt_Lw_law_1 48 rfl) ?_
    refine ev_iload_4 (ev_dt dt_Lw_law_1 49 rfl) ?_
    refine ev_ic1 (ev_dt dt_Lw_law_1 50 rfl) ?_
    refine ev_addn (ev_dt dt_Lw_law_1 51 rfl) ?_
    refine ev_sld (ev_dt dt_Lw_law_1 52 rfl) hX hb (by omega) (by omega) ?_
    refine ev_aload_0 (ev_dt dt_Lw_law_1 53 rfl) ?_
    refine ev_iload_4 (ev_dt dt_Lw_law_1 54 rfl) ?_
    refine ev_ic2 (ev_dt dt_Lw_law_1 55 rfl) ?_
    refine ev_addn (ev_dt dt_Lw_law_1 56 rfl) ?_
    refine ev_sld (ev_dt dt_Lw_law_1 57 rfl) hX hb (by omega) (by omega) ?_
    refine ev_aload_0 (ev_dt dt_Lw_law_1 58 rfl) ?_
    refine ev_iload_4 (ev_dt dt_Lw_law_1 59 rfl) ?_
    refine ev_ic3 (ev_dt dt_Lw_law_2 0 rfl) ?_
    refine ev_addn (ev_dt dt_Lw_law_2 1 rfl) ?_
    refine ev_sld (ev_dt dt_Lw_law_2 2 rfl) hX hb (by omega) (by omega) ?_
    refine ev_callV (ev_dt dt_Lw_law_2 3 rfl) v_Lw_82_10 hM1.1 [.int (xs (5 * t + 1)), .int (xs (5 * t + 2)), .int (xs (5 * t + 3))] rfl np_Md_change rfl (ev_lk_of (j := 0) rfl rfl) (r_change (d := d + 60) hT hM1 hm120 (fun g => False.elim (g.elim (fun g => g _ (rw_out hR.1 hj hnu).1 (rw_out hR.1 hj hnu).2.1 (rw_out hR.1 hj hnu).2.2) (fun g => g l hl hy))) (fun r l' hr hTr ex hl' ey h2 hM2 hf2 => ev_r1 ?_))
    obtain rfl : l' = l := nI_inj (by omega) (by omega) ey hy
    obtain rfl : r = π j := nI_inj (by omega) (by have := (rw_out hR.1 hj hnu).1; omega) ex (rw_out hR.1 hj hnu).2.2
    have hP2 := hP1.byRef hf2
    have ho2 := (hf2 (X + 107) (Or.inr (by omega))).trans ho1
    refine ev_icmp_eqT (tgt := 1484) (ev_dt dt_Lw_law_2 4 rfl) (by decide) rfl ?_
    refine ev_fg_5 (ev_fg_6 ?_)
    exact kk h2 _ _ _ (LI.mk hP2 hs hM2 ho2 (kp_change hR hj hl) (by omega)) (by omega) (by omega)
theorem c_remove {E : ev_E} {X b L t tt d k n sz : Nat} {xs : Nat → Int32} {h : ev_h} {Q : ev_Q} (hE : ev_nok E) (hX : va_X b L xs E.2.2.2.1 E.2.2.2.1.heap) (hb : b < ev_b E) (hL : L ≤ 2560) (ht : 5 * t + 5 ≤ L) (htt : tt ≤ 50000) (hI : LI E X tt h sz) (kk : ∀ h' sz' k' n', LI E X (tt + 1) h' sz' → k ≤ k' → n ≤ n' → Ev E m_Lw_law (d + 62) 1484 [some (.ref b), some (.ref X), some (.ref (X + 78)), some (.ref (X + 107)), some (.int (nI (5 * t))), none, none] [] h' sz' k' n' Q) : Ev E m_Lw_law (d + 62) 281 [some (.ref b), some (.ref X), some (.ref (X + 78)), some (.ref (X + 107)), some (.int (nI (5 * t))), none, none] [] h sz (k + 3) (n + 27) Q := by
  obtain ⟨nc, al, fl, c, mr, cc, ac, nu, on, op, th, af, ff, V, qs, N, ed, zs, cs, ad, F, A, T, π, cn, co, cq, oq, sn, o, hP, hs, hM, ho, hR, hal⟩ := hI
  obtain rfl : F 1 = mr := hR.1.1
  obtain rfl : F 2 = nc := hR.2.1.1
  obtain rfl : F 3 = ac := hR.2.2.2.1.1
  obtain rfl : F 5 = fl := hR.2.2.2.2.1.1
  have hcn : cnt T (F 1) = c := en_total hR.1.2.2.2.2.1
  have hc24 : c ≤ 24 := hR.1.2.2.1
  have hm120 : F 1 ≤ 120 := hR.1.2.1
  have hnc : F 2 ≤ 24 := hR.2.1.2.1
  have hT := hR.1.2.2.2.1
  have hS := hR.2.1.2.2.1
  have hok := hR.2.1.2.2.2.1
  have hZ := hR.2.1.2.2.2.2.1
  have hC := hR.2.2.1.1
  have hcc : cc ≤ 4 := hC.2.2.2.1
  have hon : ∀ i, i < cc → on i = nI (cn i) ∧ cn i < 4 := fun i hi => ⟨(hR.2.2.1.2 i hi).1, (hC.2.2.2.2 i hi).2.1⟩
  have hop : ∀ i, i < cc → op i = nI (co i) ∧ co i < 6 := fun i hi => ⟨(hR.2.2.1.2 i hi).2, (hC.2.2.2.2 i hi).2.2.2.1⟩
  have hps : ∀ i, i < c → ((fun j => okb cn co th (V j) cc) i = true ↔ okC cc cn co th (V i)) := fun i _ => okb_iff cc
  have hqn : ∀ s, s < 4 → (qs s).1 ≤ F 2 := fun s hs => (hR.2.2.2.2.2 s hs).1.2.1
  have hp24 := rw_24 (qc := cc) (a := cn) (b := co) (t := th) hR.1
  have hokT := hR.2.1.okT
  refine ev_aload_1 (ev_dt dt_Lw_law_2 7 rfl) ?_
  refine ev_aload_0 (ev_dt dt_Lw_law_2 8 rfl) ?_
  refine ev_iload_4 (ev_dt dt_Lw_law_2 9 rfl) ?_
  refine ev_ic1 (ev_dt dt_Lw_law_2 10 rfl) ?_
  refine ev_addn (ev_dt dt_Lw_law_2 11 rfl) ?_
  refine ev_sld (ev_dt dt_Lw_law_2 12 rfl) hX hb (by omega) (by omega) ?_
  refine ev_callV (ev_dt dt_Lw_law_2 13 rfl) v_Lw_83_0 hP.1 [.int (xs (5 * t + 1))] rfl np_PT_remove rfl (ev_lk_of (j := 1) rfl rfl) (t_PT_remove (d := d + 1) hc24 hP (fun hx => ev_r1 ?_) (fun j c' hj hnu hcc' h1 nu' V' hsh hP1 hf1 => ev_r1 ?_))
  · refine ev_aload_2 (ev_dt dt_Lw_law_2 14 rfl) ?_
    refine ev_aload_0 (ev_dt dt_Lw_law_2 15 rfl) ?_
    refine ev_iload_4 (ev_dt dt_Lw_law_2 16 rfl) ?_
    refine ev_ic1 (ev_dt dt_Lw_law_2 17 rfl) ?_
    refine ev_addn (ev_dt dt_Lw_law_2 18 rfl) ?_
    refine ev_sld (ev_dt dt_Lw_law_2 19 rfl) hX hb (by omega) (by omega) ?_
    refine ev_callV (ev_dt dt_Lw_law_2 20 rfl) v_Lw_87_10 hM.1 [.int (xs (5 * t + 1))] rfl np_Md_remove rfl (ev_lk_of (j := 0) rfl rfl) (r_remove (d := d + 60) hT hM hm120 (fun _ h2 hM2 hf2 => ev_r1 ?_) (fun r hr hTr ex => False.elim ((fun g => by obtain ⟨j', hj', ej', -⟩ := rw_in hR.1 hr hTr ex; exact g j' hj' ej') hx)))
    have hP2 := hP.byRef hf2
    have ho2 := (hf2 (X + 107) (Or.inr (by omega))).trans ho
    refine ev_icmp_eqT (tgt := 1484) (ev_dt dt_Lw_law_2 21 rfl) (by decide) rfl ?_
    refine ev_fg_5 (ev_fg_6 ?_)
    exact kk h2 _ _ _ (LI.mk hP2 hs hM2 ho2 hR.thr (by omega)) (by omega) (by omega)
  · have hM1 := hM.cF hf1
    have ho1 := (hf1 (X + 107) (by omega) (by omega)).trans ho
    refine ev_aload_2 (ev_dt dt_Lw_law_2 14 rfl) ?_
    refine ev_aload_0 (ev_dt dt_Lw_law_2 15 rfl) ?_
    refine ev_iload_4 (ev_dt dt_Lw_law_2 16 rfl) ?_
    refine ev_ic1 (ev_dt dt_Lw_law_2 17 rfl) ?_
    refine ev_addn (ev_dt dt_Lw_law_2 18 rfl) ?_
    refine ev_sld (ev_dt dt_Lw_law_2 19 rfl) hX hb (by omega) (by omega) ?_
    refine ev_callV (ev_dt dt_Lw_law_2 20 rfl) v_Lw_87_10 hM1.1 [.int (xs (5 * t + 1))] rfl np_Md_remove rfl (ev_lk_of (j := 0) rfl rfl) (r_remove (d := d + 60) hT hM1 hm120 (fun g => False.elim (g _ (rw_out hR.1 hj hnu).1 (rw_out hR.1 hj hnu).2.1 (rw_out hR.1 hj hnu).2.2)) (fun r hr hTr ex h2 hM2 hf2 => ev_r1 ?_))
    obtain rfl : r = π j := nI_inj (by omega) (by have := (rw_out hR.1 hj hnu).1; omega) ex (rw_out hR.1 hj hnu).2.2
    have hP2 := hP1.byRef hf2
    have ho2 := (hf2 (X + 107) (Or.inr (by omega))).trans ho1
    refine ev_icmp_eqT (tgt := 1484) (ev_dt dt_Lw_law_2 21 rfl) (by decide) rfl ?_
    refine ev_fg_5 (ev_fg_6 ?_)
    exact kk h2 _ _ _ (LI.mk hP2 hs hM2 ho2 (kp_remove hR hj hcc' hsh) (by omega)) (by omega) (by omega)
theorem c_value {E : ev_E} {X b L t tt d k n sz : Nat} {xs : Nat → Int32} {h : ev_h} {Q : ev_Q} (hE : ev_nok E) (hX : va_X b L xs E.2.2.2.1 E.2.2.2.1.heap) (hb : b < ev_b E) (hL : L ≤ 2560) (ht : 5 * t + 5 ≤ L) (htt : tt ≤ 50000) (hI : LI E X tt h sz) (kk : ∀ h' sz' k' n', LI E X (tt + 1) h' sz' → k ≤ k' → n ≤ n' → Ev E m_Lw_law (d + 62) 1484 [some (.ref b), some (.ref X), some (.ref (X + 78)), some (.ref (X + 107)), some (.int (nI (5 * t))), none, none] [] h' sz' k' n' Q) : Ev E m_Lw_law (d + 62) 306 [some (.ref b), some (.ref X), some (.ref (X + 78)), some (.ref (X + 107)), some (.int (nI (5 * t))), none, none] [] h sz (k + 3) (n + 27) Q := by
  obtain ⟨nc, al, fl, c, mr, cc, ac, nu, on, op, th, af, ff, V, qs, N, ed, zs, cs, ad, F, A, T, π, cn, co, cq, oq, sn, o, hP, hs, hM, ho, hR, hal⟩ := hI
  obtain rfl : F 1 = mr := hR.1.1
  obtain rfl : F 2 = nc := hR.2.1.1
  obtain rfl : F 3 = ac := hR.2.2.2.1.1
  obtain rfl : F 5 = fl := hR.2.2.2.2.1.1
  have hcn : cnt T (F 1) = c := en_total hR.1.2.2.2.2.1
  have hc24 : c ≤ 24 := hR.1.2.2.1
  have hm120 : F 1 ≤ 120 := hR.1.2.1
  have hnc : F 2 ≤ 24 := hR.2.1.2.1
  have hT := hR.1.2.2.2.1
  have hS := hR.2.1.2.2.1
  have hok := hR.2.1.2.2.2.1
  have hZ := hR.2.1.2.2.2.2.1
  have hC := hR.2.2.1.1
  have hcc : cc ≤ 4 := hC.2.2.2.1
  have hon : ∀ i, i < cc → on i = nI (cn i) ∧ cn i < 4 := fun i hi => ⟨(hR.2.2.1.2 i hi).1, (hC.2.2.2.2 i hi).2.1⟩
  have hop : ∀ i, i < cc → op i = nI (co i) ∧ co i < 6 := fun i hi => ⟨(hR.2.2.1.2 i hi).2, (hC.2.2.2.2 i hi).2.2.2.1⟩
  have hps : ∀ i, i < c → ((fun j => okb cn co th (V j) cc) i = true ↔ okC cc cn co th (V i)) := fun i _ => okb_iff cc
  have hqn : ∀ s, s < 4 → (qs s).1 ≤ F 2 := fun s hs => (hR.2.2.2.2.2 s hs).1.2.1
  have hp24 := rw_24 (qc := cc) (a := cn) (b := co) (t := th) hR.1
  have hokT := hR.2.1.okT
  refine ev_aload_1 (ev_dt dt_Lw_law_2 24 rfl) ?_
  refine ev_aload_0 (ev_dt dt_Lw_law_2 25 rfl) ?_
  refine ev_iload_4 (ev_dt dt_Lw_law_2 26 rfl) ?_
  refine ev_ic1 (ev_dt dt_Lw_law_2 27 rfl) ?_
  refine ev_addn (ev_dt dt_Lw_law_2 28 rfl) ?_
  refine ev_sld (ev_dt dt_Lw_law_2 29 rfl) hX hb (by omega) (by omega) ?_
  refine ev_aload_0 (ev_dt dt_Lw_law_2 30 rfl) ?_
  refine ev_iload_4 (ev_dt dt_Lw_law_2 31 rfl) ?_
  refine ev_ic2 (ev_dt dt_Lw_law_2 32 rfl) ?_
  refine ev_addn (ev_dt dt_Lw_law_2 33 rfl) ?_
  refine ev_sld (ev_dt dt_Lw_law_2 34 rfl) hX hb (by omega) (by omega) ?_
  refine ev_aload_3 (ev_dt dt_Lw_law_2 35 rfl) ?_
  refine ev_callS (ev_dt dt_Lw_law_2 36 rfl) s_Lw_88 [.ref X, .int (xs (5 * t + 1)), .int (xs (5 * t + 2)), .ref (X + 107)] rfl np_Lw_value rfl (ev_lk_of (j := 1) rfl rfl) ?_
  refine ev_aload_3 (ev_dt dt_Lw_value_0 0 rfl) ?_
  refine ev_ic0 (ev_dt dt_Lw_value_0 1 rfl) ?_
  refine ev_aload_0 (ev_dt dt_Lw_value_0 2 rfl) ?_
  refine ev_iload_1 (ev_dt dt_Lw_value_0 3 rfl) ?_
  refine ev_iload_2 (ev_dt dt_Lw_value_0 4 rfl) ?_
  refine ev_callV (ev_dt dt_Lw_value_0 5 rfl) v_Lw_15_0 hP.1 [.int (xs (5 * t + 1)), .int (xs (5 * t + 2))] rfl np_PT_value rfl (ev_lk_of (j := 1) rfl rfl) (t_PT_value (d := d) hc24 hs hP (fun hx h1 hP1 hs1 hf1 he1 => ev_rt ?_) (fun j l hj hnu hl hy => ev_r1 ?_))
  · have hM1 := hM.cF hf1
    have ho1 := (hf1 (X + 107) (by omega) (by omega)).trans ho
    refine ev_catch1 rfl rfl (by decide) wl_19 rfl wc_13 he1 ?_
    refine ev_astore_4 (ev_dt dt_Lw_value_0 9 rfl) (by decide) rfl ?_
    refine ev_ic1 (ev_dt dt_Lw_value_0 10 rfl) ?_
    refine ev_ireturn (ev_dt dt_Lw_value_0 11 rfl) rfl rfl (ev_r1 ?_)
    refine ev_istore_5 (ev_dt dt_Lw_law_2 37 rfl) (by decide) rfl ?_
    refine ev_aload_2 (ev_dt dt_Lw_law_2 38 rfl) ?_
    refine ev_aload_0 (ev_dt dt_Lw_law_2 39 rfl) ?_
    refine ev_iload_4 (ev_dt dt_Lw_law_2 40 rfl) ?_
    refine ev_ic1 (ev_dt dt_Lw_law_2 41 rfl) ?_
    refine ev_addn (ev_dt dt_Lw_law_2 42 rfl) ?_
    refine ev_sld (ev_dt dt_Lw_law_2 43 rfl) hX hb (by omega) (by omega) ?_
    refine ev_aload_0 (ev_dt dt_Lw_law_2 44 rfl) ?_
    refine ev_iload_4 (ev_dt dt_Lw_law_2 45 rfl) ?_
    refine ev_ic2 (ev_dt dt_Lw_law_2 46 rfl) ?_
    refine ev_addn (ev_dt dt_Lw_law_2 47 rfl) ?_
    refine ev_sld (ev_dt dt_Lw_law_2 48 rfl) hX hb (by omega) (by omega) ?_
    refine ev_callV (ev_dt dt_Lw_law_2 49 rfl) v_Lw_91_10 hM1.1 [.int (xs (5 * t + 1)), .int (xs (5 * t + 2))] rfl np_Md_value rfl (ev_lk_of (j := 0) rfl rfl) (r_value (d := d + 60) hT hM1 hm120 (fun _ h2 hM2 hf2 => ev_r1 ?_) (fun r l hr hTr ex hl ey => False.elim (hx.elim (fun g => by obtain ⟨j', hj', ej', -⟩ := rw_in hR.1 hr hTr ex; exact g j' hj' ej') (fun g => g l hl ey))))
    have hP2 := hP1.byRef hf2
    have ho2 := (hf2 (X + 107) (Or.inr (by omega))).trans ho1
    refine ev_istore_6 (ev_dt dt_Lw_law_2 50 rfl) (by decide) rfl ?_
    refine ev_aload_2 (ev_dt dt_Lw_law_2 51 rfl) ?_
    refine ev_callV (ev_dt dt_Lw_law_2 52 rfl) v_Lw_75_10 hM2.1 [] rfl np_Md_thrown rfl (ev_lk_of (j := 0) rfl rfl) (r_thrown hM2 (ev_r1 ?_))
    refine ev_iload_5 (ev_dt dt_Lw_law_2 53 rfl) ?_
    refine ev_icmp_eqT (tgt := 354) (ev_dt dt_Lw_law_2 54 rfl) (by decide) rfl ?_
    refine ev_iload_5 (ev_dt dt_Lw_law_2 57 rfl) ?_
    refine ev_if_neT (tgt := 371) (ev_dt dt_Lw_law_2 58 rfl) (by decide) (by decide +kernel) ?_
    refine ev_goto (tgt := 1484) (ev_dt dt_Lw_law_3 8 rfl) (by decide) ?_
    refine ev_fg_5 (ev_fg_6 ?_)
    exact kk h2 _ _ _ (LI.mk hP2 hs1 hM2 ho2 hR.thr (by omega)) (by omega) (by omega)
  · refine ev_i2l (ev_dt dt_Lw_value_0 6 rfl) rfl ?_
    refine ev_outS (ev_dt dt_Lw_value_0 7 rfl) hP hM ho (fun h3 o3 hP3 hM3 ho3 hov3 => ?_)
    refine ev_goto (tgt := 17) (ev_dt dt_Lw_value_0 8 rfl) (by decide) ?_
    refine ev_ic0 (ev_dt dt_Lw_value_0 12 rfl) ?_
    refine ev_ireturn (ev_dt dt_Lw_value_0 13 rfl) rfl rfl (ev_r1 ?_)
    refine ev_istore_5 (ev_dt dt_Lw_law_2 37 rfl) (by decide) rfl ?_
    refine ev_aload_2 (ev_dt dt_Lw_law_2 38 rfl) ?_
    refine ev_aload_0 (ev_dt dt_Lw_law_2 39 rfl) ?_
    refine ev_iload_4 (ev_dt dt_Lw_law_2 40 rfl) ?_
    refine ev_ic1 (ev_dt dt_Lw_law_2 41 rfl) ?_
    refine ev_addn (ev_dt dt_Lw_law_2 42 rfl) ?_
    refine ev_sld (ev_dt dt_Lw_law_2 43 rfl) hX hb (by omega) (by omega) ?_
    refine ev_aload_0 (ev_dt dt_Lw_law_2 44 rfl) ?_
    refine ev_iload_4 (ev_dt dt_Lw_law_2 45 rfl) ?_
    refine ev_ic2 (ev_dt dt_Lw_law_2 46 rfl) ?_
    refine ev_addn (ev_dt dt_Lw_law_2 47 rfl) ?_
    refine ev_sld (ev_dt dt_Lw_law_2 48 rfl) hX hb (by omega) (by omega) ?_
    refine ev_callV (ev_dt dt_Lw_law_2 49 rfl) v_Lw_91_10 hM3.1 [.int (xs (5 * t + 1)), .int (xs (5 * t + 2))] rfl np_Md_value rfl (ev_lk_of (j := 0) rfl rfl) (r_value (d := d + 60) hT hM3 hm120 (fun g => False.elim (g.elim (fun g => g _ (rw_out hR.1 hj hnu).1 (rw_out hR.1 hj hnu).2.1 (rw_out hR.1 hj hnu).2.2) (fun g => g l hl hy))) (fun r l' hr hTr ex hl' ey h2 hM2 hf2 => ev_r1 ?_))
    obtain rfl : l' = l := nI_inj (by omega) (by omega) ey hy
    obtain rfl : r = π j := nI_inj (by omega) (by have := (rw_out hR.1 hj hnu).1; omega) ex (rw_out hR.1 hj hnu).2.2
    have hP2 := hP3.byRef hf2
    have ho2 := (hf2 (X + 107) (Or.inr (by omega))).trans ho3
    refine ev_istore_6 (ev_dt dt_Lw_law_2 50 rfl) (by decide) rfl ?_
    refine ev_aload_2 (ev_dt dt_Lw_law_2 51 rfl) ?_
    refine ev_callV (ev_dt dt_Lw_law_2 52 rfl) v_Lw_75_10 hM2.1 [] rfl np_Md_thrown rfl (ev_lk_of (j := 0) rfl rfl) (r_thrown hM2 (ev_r1 ?_))
    refine ev_iload_5 (ev_dt dt_Lw_law_2 53 rfl) ?_
    refine ev_icmp_eqT (tgt := 354) (ev_dt dt_Lw_law_2 54 rfl) (by decide) rfl ?_
    refine ev_iload_5 (ev_dt dt_Lw_law_2 57 rfl) ?_
    refine ev_if_neF (tgt := 371) (ev_dt dt_Lw_law_2 58 rfl) (by decide) z00 ?_
    refine ev_aload_3 (ev_dt dt_Lw_law_2 59 rfl) ?_
    refine ev_ic0 (ev_dt dt_Lw_law_3 0 rfl) ?_
    refine ev_lald (ev_dt dt_Lw_law_3 1 rfl) ho2 (by omega) (by decide) hov3 ?_
    refine ev_iload_6 (ev_dt dt_Lw_law_3 2 rfl) ?_
    refine ev_i2l (ev_dt dt_Lw_law_3 3 rfl) rfl ?_
    refine ev_lcmp (ev_dt dt_Lw_law_3 4 rfl) ?_
    refine ev_if_eqT (tgt := 371) (ev_dt dt_Lw_law_3 5 rfl) (by decide) (lgc ((hR.1.2.2.2.2.2 j hj).2 l' hl)) ?_
    refine ev_goto (tgt := 1484) (ev_dt dt_Lw_law_3 8 rfl) (by decide) ?_
    refine ev_fg_5 (ev_fg_6 ?_)
    exact kk h2 _ _ _ (LI.mk hP2 hs hM2 ho2 hR.thr (by omega)) (by omega) (by omega)
