/-! The law's cases (written by gen_law.py over walk.py). -/
theorem c_free {E : ev_E} {X b L t tt d k n sz : Nat} {xs : Nat → Int32} {h : ev_h} {Q : ev_Q} (hE : ev_nok E) (hX : va_X b L xs E.2.2.2.1 E.2.2.2.1.heap) (hb : b < ev_b E) (hL : L ≤ 2560) (ht : 5 * t + 5 ≤ L) (htt : tt ≤ 50000) (hI : LI E X tt h sz) (kk : ∀ h' sz' k' n', LI E X (tt + 1) h' sz' → k ≤ k' → n ≤ n' → Ev E m_Lw_law (d + 62) 1484 [some (.ref b), some (.ref X), some (.ref (X + 78)), some (.ref (X + 107)), some (.int (nI (5 * t))), none, none] [] h' sz' k' n' Q) : Ev E m_Lw_law (d + 62) 762 [some (.ref b), some (.ref X), some (.ref (X + 78)), some (.ref (X + 107)), some (.int (nI (5 * t))), none, none] [] h sz (k + 3) (n + 27) Q := by
  obtain ⟨nc, al, fl, c, mr, cc, ac, nu, on, op, th, af, ff, V, qs, N, ed, zs, cs, ad, F, A, T, π, cn, co, cq, oq, sn, o, hP, hs, hM, ho, hR, hal⟩ := hI
  obtain rfl : F 1 = mr := hR.1.1
  obtain rfl : F 2 = nc := hR.2.1.1
  obtain rfl : F 3 = ac := hR.2.2.2.1.1
  obtain rfl : F 5 = fl := hR.2.2.2.2.1.1
  have hcn : cnt T (F 1) = c := en_total hR.1.2.2.2.2.1
  have hc24 : c ≤ 24 := hR.1.2.2.1
  have hm120 : F 1 ≤ 120 := hR.1.2.1
  have hnc : F 2 ≤ 24 := hR.2.1.2.1
  have hT := hR.1.2.2.2.1
  have hS := hR.2.1.2.2.1
  have hok := hR.2.1.2.2.2.1
  have hZ := hR.2.1.2.2.2.2.1
  have hC := hR.2.2.1.1
  have hcc : cc ≤ 4 := hC.2.2.2.1
  have hon : ∀ i, i < cc → on i = nI (cn i) ∧ cn i < 4 := fun i hi => ⟨(hR.2.2.1.2 i hi).1, (hC.2.2.2.2 i hi).2.1⟩
  have hop : ∀ i, i < cc → op i = nI (co i) ∧ co i < 6 := fun i hi => ⟨(hR.2.2.1.2 i hi).2, (hC.2.2.2.2 i hi).2.2.2.1⟩
  have hps : ∀ i, i < c → ((fun j => okb cn co th (V j) cc) i = true ↔ okC cc cn co th (V i)) := fun i _ => okb_iff cc
  have hqn : ∀ s, s < 4 → (qs s).1 ≤ F 2 := fun s hs => (hR.2.2.2.2.2 s hs).1.2.1
  have hp24 := rw_24 (qc := cc) (a := cn) (b := co) (t := th) hR.1
  have hokT := hR.2.1.okT
  refine ev_aload_1 (ev_dt dt_Lw_law_7 39 rfl) ?_
  refine ev_callV (ev_dt dt_Lw_law_7 40 rfl) v_Lw_109_0 hP.1 [] rfl np_PT_free rfl (ev_lk_of (j := 0) rfl rfl) (t_PT_free (d := d + 1) hP (fun h1 hP1 hf1 => ev_r0 ?_))
  have hM1 := hM.cF hf1
  have ho1 := (hf1 (X + 107) (by omega) (by omega)).trans ho
  refine ev_aload_2 (ev_dt dt_Lw_law_7 41 rfl) ?_
  refine ev_callV (ev_dt dt_Lw_law_7 42 rfl) v_Lw_112_10 hM1.1 [] rfl np_Md_free rfl (ev_lk_of (j := 0) rfl rfl) (r_free hM1 (fun h2 hM2 hf2 => ev_r0 ?_))
  have hP2 := hP1.byRef hf2
  have ho2 := (hf2 (X + 107) (Or.inr (by omega))).trans ho1
  refine ev_goto (tgt := 1484) (ev_dt dt_Lw_law_7 43 rfl) (by decide) ?_
  refine ev_fg_5 (ev_fg_6 ?_)
  exact kk h2 _ _ _ (LI.mk hP2 hs hM2 ho2 (kp_free hR) (by omega)) (by omega) (by omega)
theorem c_compare {E : ev_E} {X b L t tt d k n sz : Nat} {xs : Nat → Int32} {h : ev_h} {Q : ev_Q} (hE : ev_nok E) (hX : va_X b L xs E.2.2.2.1 E.2.2.2.1.heap) (hb : b < ev_b E) (hL : L ≤ 2560) (ht : 5 * t + 5 ≤ L) (htt : tt ≤ 50000) (hI : LI E X tt h sz) (kk : ∀ h' sz' k' n', LI E X (tt + 1) h' sz' → k ≤ k' → n ≤ n' → Ev E m_Lw_law (d + 62) 1484 [some (.ref b), some (.ref X), some (.ref (X + 78)), some (.ref (X + 107)), some (.int (nI (5 * t))), none, none] [] h' sz' k' n' Q) : Ev E m_Lw_law (d + 62) 773 [some (.ref b), some (.ref X), some (.ref (X + 78)), some (.ref (X + 107)), some (.int (nI (5 * t))), none, none] [] h sz (k + 3) (n + 27) Q := by
  obtain ⟨nc, al, fl, c, mr, cc, ac, nu, on, op, th, af, ff, V, qs, N, ed, zs, cs, ad, F, A, T, π, cn, co, cq, oq, sn, o, hP, hs, hM, ho, hR, hal⟩ := hI
  obtain rfl : F 1 = mr := hR.1.1
  obtain rfl : F 2 = nc := hR.2.1.1
  obtain rfl : F 3 = ac := hR.2.2.2.1.1
  obtain rfl : F 5 = fl := hR.2.2.2.2.1.1
  have hcn : cnt T (F 1) = c := en_total hR.1.2.2.2.2.1
  have hc24 : c ≤ 24 := hR.1.2.2.1
  have hm120 : F 1 ≤ 120 := hR.1.2.1
  have hnc : F 2 ≤ 24 := hR.2.1.2.1
  have hT := hR.1.2.2.2.1
  have hS := hR.2.1.2.2.1
  have hok := hR.2.1.2.2.2.1
  have hZ := hR.2.1.2.2.2.2.1
  have hC := hR.2.2.1.1
  have hcc : cc ≤ 4 := hC.2.2.2.1
  have hon : ∀ i, i < cc → on i = nI (cn i) ∧ cn i < 4 := fun i hi => ⟨(hR.2.2.1.2 i hi).1, (hC.2.2.2.2 i hi).2.1⟩
  have hop : ∀ i, i < cc → op i = nI (co i) ∧ co i < 6 := fun i hi => ⟨(hR.2.2.1.2 i hi).2, (hC.2.2.2.2 i hi).2.2.2.1⟩
  have hps : ∀ i, i < c → ((fun j => okb cn co th (V j) cc) i = true ↔ okC cc cn co th (V i)) := fun i _ => okb_iff cc
  have hqn : ∀ s, s < 4 → (qs s).1 ≤ F 2 := fun s hs => (hR.2.2.2.2.2 s hs).1.2.1
  have hp24 := rw_24 (qc := cc) (a := cn) (b := co) (t := th) hR.1
  have hokT := hR.2.1.okT
  refine ev_aload_1 (ev_dt dt_Lw_law_7 44 rfl) ?_
  refine ev_aload_0 (ev_dt dt_Lw_law_7 45 rfl) ?_
  refine ev_iload_4 (ev_dt dt_Lw_law_7 46 rfl) ?_
  refine ev_ic1 (ev_dt dt_Lw_law_7 47 rfl) ?_
  refine ev_addn (ev_dt dt_Lw_law_7 48 rfl) ?_
  refine ev_sld (ev_dt dt_Lw_law_7 49 rfl) hX hb (by omega) (by omega) ?_
  refine ev_aload_0 (ev_dt dt_Lw_law_7 50 rfl) ?_
  refine ev_iload_4 (ev_dt dt_Lw_law_7 51 rfl) ?_
  refine ev_ic2 (ev_dt dt_Lw_law_7 52 rfl) ?_
  refine ev_addn (ev_dt dt_Lw_law_7 53 rfl) ?_
  refine ev_sld (ev_dt dt_Lw_law_7 54 rfl) hX hb (by omega) (by omega) ?_
  refine ev_aload_0 (ev_dt dt_Lw_law_7 55 rfl) ?_
  refine ev_iload_4 (ev_dt dt_Lw_law_7 56 rfl) ?_
  refine ev_ic3 (ev_dt dt_Lw_law_7 57 rfl) ?_
  refine ev_addn (ev_dt dt_Lw_law_7 58 rfl) ?_
  refine ev_sld (ev_dt dt_Lw_law_7 59 rfl) hX hb (by omega) (by omega) ?_
  refine ev_aload_3 (ev_dt dt_Lw_law_8 0 rfl) ?_
  refine ev_callS (ev_dt dt_Lw_law_8 1 rfl) s_Lw_113 [.ref X, .int (xs (5 * t + 1)), .int (xs (5 * t + 2)), .int (xs (5 * t + 3)), .ref (X + 107)] rfl np_Lw_compare rfl (ev_lk_of (j := 1) rfl rfl) ?_
  refine ev_aload_4 (ev_dt dt_Lw_compare_0 0 rfl) ?_
  refine ev_ic0 (ev_dt dt_Lw_compare_0 1 rfl) ?_
  refine ev_aload_0 (ev_dt dt_Lw_compare_0 2 rfl) ?_
  refine ev_iload_1 (ev_dt dt_Lw_compare_0 3 rfl) ?_
  refine ev_iload_2 (ev_dt dt_Lw_compare_0 4 rfl) ?_
  refine ev_iload_3 (ev_dt dt_Lw_compare_0 5 rfl) ?_
  refine ev_callV (ev_dt dt_Lw_compare_0 6 rfl) v_Lw_37_0 hP.1 [.int (xs (5 * t + 1)), .int (xs (5 * t + 2)), .int (xs (5 * t + 3))] rfl np_PT_compare rfl (ev_lk_of (j := 2) rfl rfl) (t_PT_compare (d := d) hnc hc24 hs hP (fun hx h1 hP1 hs1 hf1 he1 => ev_rt ?_) (fun i j1 j2 hi ex hj1 ey hj2 ez => ev_r1 ?_))
  · have hM1 := hM.cF hf1
    have ho1 := (hf1 (X + 107) (by omega) (by omega)).trans ho
    refine ev_catch1 rfl rfl (by decide) wl_19 rfl wc_13 he1 ?_
    refine ev_astore_5 (ev_dt dt_Lw_compare_0 10 rfl) (by decide) rfl ?_
    refine ev_ic1 (ev_dt dt_Lw_compare_0 11 rfl) ?_
    refine ev_ireturn (ev_dt dt_Lw_compare_0 12 rfl) rfl rfl (ev_r1 ?_)
    refine ev_istore_5 (ev_dt dt_Lw_law_8 2 rfl) (by decide) rfl ?_
    refine ev_aload_2 (ev_dt dt_Lw_law_8 3 rfl) ?_
    refine ev_aload_0 (ev_dt dt_Lw_law_8 4 rfl) ?_
    refine ev_iload_4 (ev_dt dt_Lw_law_8 5 rfl) ?_
    refine ev_ic1 (ev_dt dt_Lw_law_8 6 rfl) ?_
    refine ev_addn (ev_dt dt_Lw_law_8 7 rfl) ?_
    refine ev_sld (ev_dt dt_Lw_law_8 8 rfl) hX hb (by omega) (by omega) ?_
    refine ev_aload_0 (ev_dt dt_Lw_law_8 9 rfl) ?_
    refine ev_iload_4 (ev_dt dt_Lw_law_8 10 rfl) ?_
    refine ev_ic2 (ev_dt dt_Lw_law_8 11 rfl) ?_
    refine ev_addn (ev_dt dt_Lw_law_8 12 rfl) ?_
    refine ev_sld (ev_dt dt_Lw_law_8 13 rfl) hX hb (by omega) (by omega) ?_
    refine ev_aload_0 (ev_dt dt_Lw_law_8 14 rfl) ?_
    refine ev_iload_4 (ev_dt dt_Lw_law_8 15 rfl) ?_
    refine ev_ic3 (ev_dt dt_Lw_law_8 16 rfl) ?_
    refine ev_addn (ev_dt dt_Lw_law_8 17 rfl) ?_
    refine ev_sld (ev_dt dt_Lw_law_8 18 rfl) hX hb (by omega) (by omega) ?_
    refine ev_callV (ev_dt dt_Lw_law_8 19 rfl) v_Lw_115_10 hM1.1 [.int (xs (5 * t + 1)), .int (xs (5 * t + 2)), .int (xs (5 * t + 3))] rfl np_Md_compare rfl (ev_lk_of (j := 0) rfl rfl) (r_compare (d := d + 57) hM1 hS hnc rfl hT hm120 (fun _ h2 hM2 hf2 => ev_r1 ?_) (fun i2 u2 v2 hi2 ex2 hu2 hTu ey2 hv2 hTv ez2 => False.elim (hx.elim (fun g => g i2 hi2 ex2) (fun g => g.elim (fun g => by obtain ⟨j', hj', ej', -⟩ := rw_in hR.1 hu2 hTu ey2; exact g j' hj' ej') (fun g => by obtain ⟨j', hj', ej', -⟩ := rw_in hR.1 hv2 hTv ez2; exact g j' hj' ej')))))
    have hP2 := hP1.byRef hf2
    have ho2 := (hf2 (X + 107) (Or.inr (by omega))).trans ho1
    refine ev_istore_6 (ev_dt dt_Lw_law_8 20 rfl) (by decide) rfl ?_
    refine ev_aload_2 (ev_dt dt_Lw_law_8 21 rfl) ?_
    refine ev_callV (ev_dt dt_Lw_law_8 22 rfl) v_Lw_75_10 hM2.1 [] rfl np_Md_thrown rfl (ev_lk_of (j := 0) rfl rfl) (r_thrown hM2 (ev_r1 ?_))
    refine ev_iload_5 (ev_dt dt_Lw_law_8 23 rfl) ?_
    refine ev_icmp_eqT (tgt := 833) (ev_dt dt_Lw_law_8 24 rfl) (by decide) rfl ?_
    refine ev_iload_5 (ev_dt dt_Lw_law_8 27 rfl) ?_
    refine ev_if_neT (tgt := 850) (ev_dt dt_Lw_law_8 28 rfl) (by decide) (by decide +kernel) ?_
    refine ev_goto (tgt := 1484) (ev_dt dt_Lw_law_8 38 rfl) (by decide) ?_
    refine ev_fg_5 (ev_fg_6 ?_)
    exact kk h2 _ _ _ (LI.mk hP2 hs1 hM2 ho2 hR.thr (by omega)) (by omega) (by omega)
  · refine ev_i2l (ev_dt dt_Lw_compare_0 7 rfl) rfl ?_
    refine ev_outS (ev_dt dt_Lw_compare_0 8 rfl) hP hM ho (fun h3 o3 hP3 hM3 ho3 hov3 => ?_)
    refine ev_goto (tgt := 19) (ev_dt dt_Lw_compare_0 9 rfl) (by decide) ?_
    refine ev_ic0 (ev_dt dt_Lw_compare_0 13 rfl) ?_
    refine ev_ireturn (ev_dt dt_Lw_compare_0 14 rfl) rfl rfl (ev_r1 ?_)
    refine ev_istore_5 (ev_dt dt_Lw_law_8 2 rfl) (by decide) rfl ?_
    refine ev_aload_2 (ev_dt dt_Lw_law_8 3 rfl) ?_
    refine ev_aload_0 (ev_dt dt_Lw_law_8 4 rfl) ?_
    refine ev_iload_4 (ev_dt dt_Lw_law_8 5 rfl) ?_
    refine ev_ic1 (ev_dt dt_Lw_law_8 6 rfl) ?_
    refine ev_addn (ev_dt dt_Lw_law_8 7 rfl) ?_
    refine ev_sld (ev_dt dt_Lw_law_8 8 rfl) hX hb (by omega) (by omega) ?_
    refine ev_aload_0 (ev_dt dt_Lw_law_8 9 rfl) ?_
    refine ev_iload_4 (ev_dt dt_Lw_law_8 10 rfl) ?_
    refine ev_ic2 (ev_dt dt_Lw_law_8 11 rfl) ?_
    refine ev_addn (ev_dt dt_Lw_law_8 12 rfl) ?_
    refine ev_sld (ev_dt dt_Lw_law_8 13 rfl) hX hb (by omega) (by omega) ?_
    refine ev_aload_0 (ev_dt dt_Lw_law_8 14 rfl) ?_
    refine ev_iload_4 (ev_dt dt_Lw_law_8 15 rfl) ?_
    refine ev_ic3 (ev_dt dt_Lw_law_8 16 rfl) ?_
    refine ev_addn (ev_dt dt_Lw_law_8 17 rfl) ?_
    refine ev_sld (ev_dt dt_Lw_law_8 18 rfl) hX hb (by omega) (by omega) ?_
    refine ev_callV (ev_dt dt_Lw_law_8 19 rfl) v_Lw_115_10 hM3.1 [.int (xs (5 * t + 1)), .int (xs (5 * t + 2)), .int (xs (5 * t + 3))] rfl np_Md_compare rfl (ev_lk_of (j := 0) rfl rfl) (r_compare (d := d + 57) hM3 hS hnc rfl hT hm120 (fun g => False.elim (g.elim (fun g => g i hi ex) (fun g => g.elim (fun g => g _ (rw_out hR.1 hj1 ey).1 (rw_out hR.1 hj1 ey).2.1 (rw_out hR.1 hj1 ey).2.2) (fun g => g _ (rw_out hR.1 hj2 ez).1 (rw_out hR.1 hj2 ez).2.1 (rw_out hR.1 hj2 ez).2.2)))) (fun i2 u2 v2 hi2 ex2 hu2 hTu ey2 hv2 hTv ez2 h2 A2 hA2 hM2 hf2 => ev_r1 ?_))
    obtain rfl : i = i2 := nI_inj (by omega) (by omega) ex ex2
    obtain rfl : u2 = π j1 := nI_inj (by omega) (by have := (rw_out hR.1 hj1 ey).1; omega) ey2 (rw_out hR.1 hj1 ey).2.2
    obtain rfl : v2 = π j2 := nI_inj (by omega) (by have := (rw_out hR.1 hj2 ez).1; omega) ez2 (rw_out hR.1 hj2 ez).2.2
    have hP2 := hP3.byRef hf2
    have ho2 := (hf2 (X + 107) (Or.inr (by omega))).trans ho3
    refine ev_istore_6 (ev_dt dt_Lw_law_8 20 rfl) (by decide) rfl ?_
    refine ev_aload_2 (ev_dt dt_Lw_law_8 21 rfl) ?_
    refine ev_callV (ev_dt dt_Lw_law_8 22 rfl) v_Lw_75_10 hM2.1 [] rfl np_Md_thrown rfl (ev_lk_of (j := 0) rfl rfl) (r_thrown hM2 (ev_r1 ?_))
    refine ev_iload_5 (ev_dt dt_Lw_law_8 23 rfl) ?_
    refine ev_icmp_eqT (tgt := 833) (ev_dt dt_Lw_law_8 24 rfl) (by decide) rfl ?_
    refine ev_iload_5 (ev_dt dt_Lw_law_8 27 rfl) ?_
    refine ev_if_neF (tgt := 850) (ev_dt dt_Lw_law_8 28 rfl) (by decide) z00 ?_
    refine ev_aload_3 (ev_dt dt_Lw_law_8 29 rfl) ?_
    refine ev_ic0 (ev_dt dt_Lw_law_8 30 rfl) ?_
    refine ev_lald (ev_dt dt_Lw_law_8 31 rfl) ho2 (by omega) (by decide) hov3 ?_
    refine ev_iload_6 (ev_dt dt_Lw_law_8 32 rfl) ?_
    refine ev_i2l (ev_dt dt_Lw_law_8 33 rfl) rfl ?_
    refine ev_lcmp (ev_dt dt_Lw_law_8 34 rfl) ?_
    refine ev_if_eqT (tgt := 850) (ev_dt dt_Lw_law_8 35 rfl) (by decide) (lgc (by rw [say_cg hokT (hR.1.2.2.2.2.2 j1 hj1).2 (hR.1.2.2.2.2.2 j2 hj2).2 i hi])) ?_
    refine ev_goto (tgt := 1484) (ev_dt dt_Lw_law_8 38 rfl) (by decide) ?_
    refine ev_fg_5 (ev_fg_6 ?_)
    exact kk h2 _ _ _ (LI.mk hP2 hs hM2 ho2 (hR.scr (sA_scr hA2) rfl rfl rfl rfl) (by omega)) (by omega) (by omega)
theorem c_best {E : ev_E} {X b L t tt d k n sz : Nat} {xs : Nat → Int32} {h : ev_h} {Q : ev_Q} (hE : ev_nok E) (hX : va_X b L xs E.2.2.2.1 E.2.2.2.1.heap) (hb : b < ev_b E) (hL : L ≤ 2560) (ht : 5 * t + 5 ≤ L) (htt : tt ≤ 50000) (hI : LI E X tt h sz) (kk : ∀ h' sz' k' n', LI E X (tt + 1) h' sz' → k ≤ k' → n ≤ n' → Ev E m_Lw_law (d + 62) 1484 [some (.ref b), some (.ref X), some (.ref (X + 78)), some (.ref (X + 107)), some (.int (nI (5 * t))), none, none] [] h' sz' k' n' Q) : Ev E m_Lw_law (d + 62) 853 [some (.ref b), some (.ref X), some (.ref (X + 78)), some (.ref (X + 107)), some (.int (nI (5 * t))), none, none] [] h sz (k + 3) (n + 27) Q := by
  obtain ⟨nc, al, fl, c, mr, cc, ac, nu, on, op, th, af, ff, V, qs, N, ed, zs, cs, ad, F, A, T, π, cn, co, cq, oq, sn, o, hP, hs, hM, ho, hR, hal⟩ := hI
  obtain rfl : F 1 = mr := hR.1.1
  obtain rfl : F 2 = nc := hR.2.1.1
  obtain rfl : F 3 = ac := hR.2.2.2.1.1
  obtain rfl : F 5 = fl := hR.2.2.2.2.1.1
  have hcn : cnt T (F 1) = c := en_total hR.1.2.2.2.2.1
  have hc24 : c ≤ 24 := hR.1.2.2.1
  have hm120 : F 1 ≤ 120 := hR.1.2.1
  have hnc : F 2 ≤ 24 := hR.2.1.2.1
  have hT := hR.1.2.2.2.1
  have hS := hR.2.1.2.2.1
  have hok := hR.2.1.2.2.2.1
  have hZ := hR.2.1.2.2.2.2.1
  have hC := hR.2.2.1.1
  have hcc : cc ≤ 4 := hC.2.2.2.1
  have hon : ∀ i, i < cc → on i = nI (cn i) ∧ cn i < 4 := fun i hi => ⟨(hR.2.2.1.2 i hi).1, (hC.2.2.2.2 i hi).2.1⟩
  have hop : ∀ i, i < cc → op i = nI (co i) ∧ co i < 6 := fun i hi => ⟨(hR.2.2.1.2 i hi).2, (hC.2.2.2.2 i hi).2.2.2.1⟩
  have hps : ∀ i, i < c → ((fun j => okb cn co th (V j) cc) i = true ↔ okC cc cn co th (V i)) := fun i _ => okb_iff cc
  have hqn : ∀ s, s < 4 → (qs s).1 ≤ F 2 := fun s hs => (hR.2.2.2.2.2 s hs).1.2.1
  have hp24 := rw_24 (qc := cc) (a := cn) (b := co) (t := th) hR.1
  have hokT := hR.2.1.okT
  refine ev_aload_1 (ev_dt dt_Lw_law_8 39 rfl) ?_
  refine ev_aload_0 (ev_dt dt_Lw_law_8 40 rfl) ?_
  refine ev_iload_4 (ev_dt dt_Lw_law_8 41 rfl) ?_
  refine ev_ic1 (ev_dt dt_Lw_law_8 42 rfl) ?_
  refine ev_addn (ev_dt dt_Lw_law_8 43 rfl) ?_
  refine ev_sld (ev_dt dt_Lw_law_8 44 rfl) hX hb (by omega) (by omega) ?_
  refine ev_aload_3 (ev_dt dt_Lw_law_8 45 rfl) ?_
  refine ev_callS (ev_dt dt_Lw_law_8 46 rfl) s_Lw_116 [.ref X, .int (xs (5 * t + 1)), .ref (X + 107)] rfl np_Lw_best rfl (ev_lk_of (j := 1) rfl rfl) ?_
  refine ev_aload_2 (ev_dt dt_Lw_best_0 0 rfl) ?_
  refine ev_ic0 (ev_dt dt_Lw_best_0 1 rfl) ?_
  refine ev_aload_0 (ev_dt dt_Lw_best_0 2 rfl) ?_
  refine ev_iload_1 (ev_dt dt_Lw_best_0 3 rfl) ?_
  refine ev_callV (ev_dt dt_Lw_best_0 4 rfl) v_Lw_40_0 hP.1 [.int (xs (5 * t + 1))] rfl np_PT_best rfl (ev_lk_of (j := 0) rfl rfl) (t_PT_best (d := d) (cn := cn) (co := co) (ps := fun j => okb cn co th (V j) cc) hnc hc24 hcc hon hop hps hok hs hP (fun hx h1 hP1 hs1 hf1 he1 => ev_rt ?_) (fun i hi ex h1 c' f' π' hen' hf' hP1 hf1 => ev_r1 ?_))
  · have hM1 := hM.cF hf1
    have ho1 := (hf1 (X + 107) (by omega) (by omega)).trans ho
    refine ev_catch1 rfl rfl (by decide) wl_19 rfl wc_13 he1 ?_
    refine ev_astore_3 (ev_dt dt_Lw_best_0 8 rfl) (by decide) rfl ?_
    refine ev_ic1 (ev_dt dt_Lw_best_0 9 rfl) ?_
    refine ev_ireturn (ev_dt dt_Lw_best_0 10 rfl) rfl rfl (ev_r1 ?_)
    refine ev_istore_5 (ev_dt dt_Lw_law_8 47 rfl) (by decide) rfl ?_
    refine ev_aload_2 (ev_dt dt_Lw_law_8 48 rfl) ?_
    refine ev_aload_0 (ev_dt dt_Lw_law_8 49 rfl) ?_
    refine ev_iload_4 (ev_dt dt_Lw_law_8 50 rfl) ?_
    refine ev_ic1 (ev_dt dt_Lw_law_8 51 rfl) ?_
    refine ev_addn (ev_dt dt_Lw_law_8 52 rfl) ?_
    refine ev_sld (ev_dt dt_Lw_law_8 53 rfl) hX hb (by omega) (by omega) ?_
    refine ev_callV (ev_dt dt_Lw_law_8 54 rfl) v_Lw_119_10 hM1.1 [.int (xs (5 * t + 1))] rfl np_Md_best rfl (ev_lk_of (j := 1) rfl rfl) (r_best (d := d + 56) hM1 hS hnc rfl hC hm120 hp24 (fun _ h2 hM2 hf2 => ev_r1 ?_) (fun i hi ex => False.elim (hx i hi ex)))
    have hP2 := hP1.byRef hf2
    have ho2 := (hf2 (X + 107) (Or.inr (by omega))).trans ho1
    refine ev_istore_6 (ev_dt dt_Lw_law_8 55 rfl) (by decide) rfl ?_
    refine ev_aload_2 (ev_dt dt_Lw_law_8 56 rfl) ?_
    refine ev_callV (ev_dt dt_Lw_law_8 57 rfl) v_Lw_75_10 hM2.1 [] rfl np_Md_thrown rfl (ev_lk_of (j := 0) rfl rfl) (r_thrown hM2 (ev_r1 ?_))
    refine ev_iload_5 (ev_dt dt_Lw_law_8 58 rfl) ?_
    refine ev_icmp_eqT (tgt := 889) (ev_dt dt_Lw_law_8 59 rfl) (by decide) rfl ?_
    refine ev_iload_5 (ev_dt dt_Lw_law_9 2 rfl) ?_
    refine ev_if_neT (tgt := 906) (ev_dt dt_Lw_law_9 3 rfl) (by decide) (by decide +kernel) ?_
    refine ev_goto (tgt := 1484) (ev_dt dt_Lw_law_9 13 rfl) (by decide) ?_
    refine ev_fg_5 (ev_fg_6 ?_)
    exact kk h2 _ _ _ (LI.mk hP2 hs1 hM2 ho2 hR.thr (by omega)) (by omega) (by omega)
  · have hM1 := hM.cF hf1
    have ho1 := (hf1 (X + 107) (by omega) (by omega)).trans ho
    refine ev_i2l (ev_dt dt_Lw_best_0 5 rfl) rfl ?_
    refine ev_outS (ev_dt dt_Lw_best_0 6 rfl) hP1 hM1 ho1 (fun h3 o3 hP3 hM3 ho3 hov3 => ?_)
    refine ev_goto (tgt := 15) (ev_dt dt_Lw_best_0 7 rfl) (by decide) ?_
    refine ev_ic0 (ev_dt dt_Lw_best_0 11 rfl) ?_
    refine ev_ireturn (ev_dt dt_Lw_best_0 12 rfl) rfl rfl (ev_r1 ?_)
    refine ev_istore_5 (ev_dt dt_Lw_law_8 47 rfl) (by decide) rfl ?_
    refine ev_aload_2 (ev_dt dt_Lw_law_8 48 rfl) ?_
    refine ev_aload_0 (ev_dt dt_Lw_law_8 49 rfl) ?_
    refine ev_iload_4 (ev_dt dt_Lw_law_8 50 rfl) ?_
    refine ev_ic1 (ev_dt dt_Lw_law_8 51 rfl) ?_
    refine ev_addn (ev_dt dt_Lw_law_8 52 rfl) ?_
    refine ev_sld (ev_dt dt_Lw_law_8 53 rfl) hX hb (by omega) (by omega) ?_
    refine ev_callV (ev_dt dt_Lw_law_8 54 rfl) v_Lw_119_10 hM3.1 [.int (xs (5 * t + 1))] rfl np_Md_best rfl (ev_lk_of (j := 1) rfl rfl) (r_best (d := d + 56) hM3 hS hnc rfl hC hm120 hp24 (fun g => False.elim (g i hi ex)) (fun i2 hi2 ex2 h2 A2 hA2 hI2 hM2 hf2 => ev_r1 ?_))
    obtain rfl : i = i2 := nI_inj (by omega) (by omega) ex ex2
    obtain ⟨w1, w2⟩ := rw_cur hR.1 hokT hi hC hen' hf'
    have hP2 := hP3.byRef hf2
    have ho2 := (hf2 (X + 107) (Or.inr (by omega))).trans ho3
    refine ev_istore_6 (ev_dt dt_Lw_law_8 55 rfl) (by decide) rfl ?_
    refine ev_aload_2 (ev_dt dt_Lw_law_8 56 rfl) ?_
    refine ev_callV (ev_dt dt_Lw_law_8 57 rfl) v_Lw_75_10 hM2.1 [] rfl np_Md_thrown rfl (ev_lk_of (j := 0) rfl rfl) (r_thrown hM2 (ev_r1 ?_))
    refine ev_iload_5 (ev_dt dt_Lw_law_8 58 rfl) ?_
    refine ev_icmp_eqT (tgt := 889) (ev_dt dt_Lw_law_8 59 rfl) (by decide) rfl ?_
    refine ev_iload_5 (ev_dt dt_Lw_law_9 2 rfl) ?_
    refine ev_if_neF (tgt := 906) (ev_dt dt_Lw_law_9 3 rfl) (by decide) z00 ?_
    refine ev_aload_3 (ev_dt dt_Lw_law_9 4 rfl) ?_
    refine ev_ic0 (ev_dt dt_Lw_law_9 5 rfl) ?_
    refine ev_lald (ev_dt dt_Lw_law_9 6 rfl) ho2 (by omega) (by decide) hov3 ?_
    refine ev_iload_6 (ev_dt dt_Lw_law_9 7 rfl) ?_
    refine ev_i2l (ev_dt dt_Lw_law_9 8 rfl) rfl ?_
    refine ev_lcmp (ev_dt dt_Lw_law_9 9 rfl) ?_
    refine ev_if_eqT (tgt := 906) (ev_dt dt_Lw_law_9 10 rfl) (by decide) (lgc (congrArg nI (en_total w1).symm)) ?_
    refine ev_goto (tgt := 1484) (ev_dt dt_Lw_law_9 13 rfl) (by decide) ?_
    refine ev_fg_5 (ev_fg_6 ?_)
    exact kk h2 _ _ _ (LI.mk hP2 hs hM2 ho2 (hR.ans (fun a a1 a2 a3 a4 => hA2 a a1 a2 a4) (li_best w1 w2 (cnt_ub hp24) hI2) rfl rfl rfl) (by omega)) (by omega) (by omega)
theorem c_grouped {E : ev_E} {X b L t tt d k n sz : Nat} {xs : Nat → Int32} {h : ev_h} {Q : ev_Q} (hE : ev_nok E) (hX : va_X b L xs E.2.2.2.1 E.2.2.2.1.heap) (hb : b < ev_b E) (hL : L ≤ 2560) (ht : 5 * t + 5 ≤ L) (htt : tt ≤ 50000) (hI : LI E X tt h sz) (kk : ∀ h' sz' k' n', LI E X (tt + 1) h' sz' → k ≤ k' → n ≤ n' → Ev E m_Lw_law (d + 62) 1484 [some (.ref b), some (.ref X), some (.ref (X + 78)), some (.ref (X + 107)), some (.int (nI (5 * t))), none, none] [] h' sz' k' n' Q) : Ev E m_Lw_law (d + 62) 909 [some (.ref b), some (.ref X), some (.ref (X + 78)), some (.ref (X + 107)), some (.int (nI (5 * t))), none, none] [] h sz (k + 3) (n + 27) Q := by
  obtain ⟨nc, al, fl, c, mr, cc, ac, nu, on, op, th, af, ff, V, qs, N, ed, zs, cs, ad, F, A, T, π, cn, co, cq, oq, sn, o, hP, hs, hM, ho, hR, hal⟩ := hI
  obtain rfl : F 1 = mr := hR.1.1
  obtain rfl : F 2 = nc := hR.2.1.1
  obtain rfl : F 3 = ac := hR.2.2.2.1.1
  obtain rfl : F 5 = fl := hR.2.2.2.2.1.1
  have hcn : cnt T (F 1) = c := en_total hR.1.2.2.2.2.1
  have hc24 : c ≤ 24 := hR.1.2.2.1
  have hm120 : F 1 ≤ 120 := hR.1.2.1
  have hnc : F 2 ≤ 24 := hR.2.1.2.1
  have hT := hR.1.2.2.2.1
  have hS := hR.2.1.2.2.1
  have hok := hR.2.1.2.2.2.1
  have hZ := hR.2.1.2.2.2.2.1
  have hC := hR.2.2.1.1
  have hcc : cc ≤ 4 := hC.2.2.2.1
  have hon : ∀ i, i < cc → on i = nI (cn i) ∧ cn i < 4 := fun i hi => ⟨(hR.2.2.1.2 i hi).1, (hC.2.2.2.2 i hi).2.1⟩
  have hop : ∀ i, i < cc → op i = nI (co i) ∧ co i < 6 := fun i hi => ⟨(hR.2.2.1.2 i hi).2, (hC.2.2.2.2 i hi).2.2.2.1⟩
  have hps : ∀ i, i < c → ((fun j => okb cn co th (V j) cc) i = true ↔ okC cc cn co th (V i)) := fun i _ => okb_iff cc
  have hqn : ∀ s, s < 4 → (qs s).1 ≤ F 2 := fun s hs => (hR.2.2.2.2.2 s hs).1.2.1
  have hp24 := rw_24 (qc := cc) (a := cn) (b := co) (t := th) hR.1
  have hokT := hR.2.1.okT
  refine ev_aload_1 (ev_dt dt_Lw_law_9 14 rfl) ?_
  refine ev_aload_0 (ev_dt dt_Lw_law_9 15 rfl) ?_
  refine ev_iload_4 (ev_dt dt_Lw_law_9 16 rfl) ?_
  refine ev_ic1 (ev_dt dt_Lw_law_9 17 rfl) ?_
  refine ev_addn (ev_dt dt_Lw_law_9 18 rfl) ?_
  refine ev_sld (ev_dt dt_Lw_law_9 19 rfl) hX hb (by omega) (by omega) ?_
  refine ev_aload_0 (ev_dt dt_Lw_law_9 20 rfl) ?_
  refine ev_iload_4 (ev_dt dt_Lw_law_9 21 rfl) ?_
  refine ev_ic2 (ev_dt dt_Lw_law_9 22 rfl) ?_
  refine ev_addn (ev_dt dt_Lw_law_9 23 rfl) ?_
  refine ev_sld (ev_dt dt_Lw_law_9 24 rfl) hX hb (by omega) (by omega) ?_
  refine ev_aload_3 (ev_dt dt_Lw_law_9 25 rfl) ?_
  refine ev_callS (ev_dt dt_Lw_law_9 26 rfl) s_Lw_120 [.ref X, .int (xs (5 * t + 1)), .int (xs (5 * t + 2)), .ref (X + 107)] rfl np_Lw_grouped rfl (ev_lk_of (j := 1) rfl rfl) ?_
  refine ev_aload_3 (ev_dt dt_Lw_grouped_0 0 rfl) ?_
  refine ev_ic0 (ev_dt dt_Lw_grouped_0 1 rfl) ?_
  refine ev_aload_0 (ev_dt dt_Lw_grouped_0 2 rfl) ?_
  refine ev_iload_1 (ev_dt dt_Lw_grouped_0 3 rfl) ?_
  refine ev_iload_2 (ev_dt dt_Lw_grouped_0 4 rfl) ?_
  refine ev_callV (ev_dt dt_Lw_grouped_0 5 rfl) v_Lw_44_0 hP.1 [.int (xs (5 * t + 1)), .int (xs (5 * t + 2))] rfl np_PT_grouped rfl (ev_lk_of (j := 0) rfl rfl) (t_PT_grouped (d := d) (cn := cn) (co := co) (ps := fun j => okb cn co th (V j) cc) hnc hc24 hcc hon hop hps hok hs hP (fun hx h1 hP1 hs1 hf1 he1 => ev_rt ?_) (fun i l hi ex hl ey h1 c' f' π' hen' hf' hP1 hf1 => ev_r1 ?_))
  · have hM1 := hM.cF hf1
    have ho1 := (hf1 (X + 107) (by omega) (by omega)).trans ho
    refine ev_catch1 rfl rfl (by decide) wl_19 rfl wc_13 he1 ?_
    refine ev_astore_4 (ev_dt dt_Lw_grouped_0 9 rfl) (by decide) rfl ?_
    refine ev_ic1 (ev_dt dt_Lw_grouped_0 10 rfl) ?_
    refine ev_ireturn (ev_dt dt_Lw_grouped_0 11 rfl) rfl rfl (ev_r1 ?_)
    refine ev_istore_5 (ev_dt dt_Lw_law_9 27 rfl) (by decide) rfl ?_
    refine ev_aload_2 (ev_dt dt_Lw_law_9 28 rfl) ?_
    refine ev_aload_0 (ev_dt dt_Lw_law_9 29 rfl) ?_
    refine ev_iload_4 (ev_dt dt_Lw_law_9 30 rfl) ?_
    refine ev_ic1 (ev_dt dt_Lw_law_9 31 rfl) ?_
    refine ev_addn (ev_dt dt_Lw_law_9 32 rfl) ?_
    refine ev_sld (ev_dt dt_Lw_law_9 33 rfl) hX hb (by omega) (by omega) ?_
    refine ev_aload_0 (ev_dt dt_Lw_law_9 34 rfl) ?_
    refine ev_iload_4 (ev_dt dt_Lw_law_9 35 rfl) ?_
    refine ev_ic2 (ev_dt dt_Lw_law_9 36 rfl) ?_
    refine ev_addn (ev_dt dt_Lw_law_9 37 rfl) ?_
    refine ev_sld (ev_dt dt_Lw_law_9 38 rfl) hX hb (by omega) (by omega) ?_
    refine ev_callV (ev_dt dt_Lw_law_9 39 rfl) v_Lw_122_10 hM1.1 [.int (xs (5 * t + 1)), .int (xs (5 * t + 2))] rfl np_Md_grouped rfl (ev_lk_of (j := 1) rfl rfl) (r_grouped (d := d + 56) hM1 hS hnc rfl hC hm120 hp24 (fun _ h2 hM2 hf2 => ev_r1 ?_) (fun i l hi ex hl ey => False.elim (hx.elim (fun g => g i hi ex) (fun g => g l hl ey))))
    have hP2 := hP1.byRef hf2
    have ho2 := (hf2 (X + 107) (Or.inr (by omega))).trans ho1
    refine ev_istore_6 (ev_dt dt_Lw_law_9 40 rfl) (by decide) rfl ?_
    refine ev_aload_2 (ev_dt dt_Lw_law_9 41 rfl) ?_
    refine ev_callV (ev_dt dt_Lw_law_9 42 rfl) v_Lw_75_10 hM2.1 [] rfl np_Md_thrown rfl (ev_lk_of (j := 0) rfl rfl) (r_thrown hM2 (ev_r1 ?_))
    refine ev_iload_5 (ev_dt dt_Lw_law_9 43 rfl) ?_
    refine ev_icmp_eqT (tgt := 957) (ev_dt dt_Lw_law_9 44 rfl) (by decide) rfl ?_
    refine ev_iload_5 (ev_dt dt_Lw_law_9 47 rfl) ?_
    refine ev_if_neT (tgt := 974) (ev_dt dt_Lw_law_9 48 rfl) (by decide) (by decide +kernel) ?_
    refine ev_goto (tgt := 1484) (ev_dt dt_Lw_law_9 58 rfl) (by decide) ?_
    refine ev_fg_5 (ev_fg_6 ?_)
    exact kk h2 _ _ _ (LI.mk hP2 hs1 hM2 ho2 hR.thr (by omega)) (by omega) (by omega)
  · have hM1 := hM.cF hf1
    have ho1 := (hf1 (X + 107) (by omega) (by omega)).trans ho
    refine ev_i2l (ev_dt dt_Lw_grouped_0 6 rfl) rfl ?_
    refine ev_outS (ev_dt dt_Lw_grouped_0 7 rfl) hP1 hM1 ho1 (fun h3 o3 hP3 hM3 ho3 hov3 => ?_)
    refine ev_goto (tgt := 17) (ev_dt dt_Lw_grouped_0 8 rfl) (by decide) ?_
    refine ev_ic0 (ev_dt dt_Lw_grouped_0 12 rfl) ?_
    refine ev_ireturn (ev_dt dt_Lw_grouped_0 13 rfl) rfl rfl (ev_r1 ?_)
    refine ev_istore_5 (ev_dt dt_Lw_law_9 27 rfl) (by decide) rfl ?_
    refine ev_aload_2 (ev_dt dt_Lw_law_9 28 rfl) ?_
    refine ev_aload_0 (ev_dt dt_Lw_law_9 29 rfl) ?_
    refine ev_iload_4 (ev_dt dt_Lw_law_9 30 rfl) ?_
    refine ev_ic1 (ev_dt dt_Lw_law_9 31 rfl) ?_
    refine ev_addn (ev_dt dt_Lw_law_9 32 rfl) ?_
    refine ev_sld (ev_dt dt_Lw_law_9 33 rfl) hX hb (by omega) (by omega) ?_
    refine ev_aload_0 (ev_dt dt_Lw_law_9 34 rfl) ?_
    refine ev_iload_4 (ev_dt dt_Lw_law_9 35 rfl) ?_
    refine ev_ic2 (ev_dt dt_Lw_law_9 36 rfl) ?_
    refine ev_addn (ev_dt dt_Lw_law_9 37 rfl) ?_
    refine ev_sld (ev_dt dt_Lw_law_9 38 rfl) hX hb (by omega) (by omega) ?_
    refine ev_callV (ev_dt dt_Lw_law_9 39 rfl) v_Lw_122_10 hM3.1 [.int (xs (5 * t + 1)), .int (xs (5 * t + 2))] rfl np_Md_grouped rfl (ev_lk_of (j := 1) rfl rfl) (r_grouped (d := d + 56) hM3 hS hnc rfl hC hm120 hp24 (fun g => False.elim (g.elim (fun g => g i hi ex) (fun g => g l hl ey))) (fun i2 l2 hi2 ex2 hl2 ey2 h2 A2 hA2 hI2 hM2 hf2 => ev_r1 ?_))
    obtain rfl : i = i2 := nI_inj (by omega) (by omega) ex ex2
    obtain rfl : l = l2 := nI_inj (by omega) (by omega) ey ey2
    obtain ⟨w1, w2⟩ := rw_curG hR.1 hokT hi hl hC hen' hf'
    have hP2 := hP3.byRef hf2
    have ho2 := (hf2 (X + 107) (Or.inr (by omega))).trans ho3
    refine ev_istore_6 (ev_dt dt_Lw_law_9 40 rfl) (by decide) rfl ?_
    refine ev_aload_2 (ev_dt dt_Lw_law_9 41 rfl) ?_
    refine ev_callV (ev_dt dt_Lw_law_9 42 rfl) v_Lw_75_10 hM2.1 [] rfl np_Md_thrown rfl (ev_lk_of (j := 0) rfl rfl) (r_thrown hM2 (ev_r1 ?_))
    refine ev_iload_5 (ev_dt dt_Lw_law_9 43 rfl) ?_
    refine ev_icmp_eqT (tgt := 957) (ev_dt dt_Lw_law_9 44 rfl) (by decide) rfl ?_
    refine ev_iload_5 (ev_dt dt_Lw_law_9 47 rfl) ?_
    refine ev_if_neF (tgt := 974) (ev_dt dt_Lw_law_9 48 rfl) (by decide) z00 ?_
    refine ev_aload_3 (ev_dt dt_Lw_law_9 49 rfl) ?_
    refine ev_ic0 (ev_dt dt_Lw_law_9 50 rfl) ?_
    refine ev_lald (ev_dt dt_Lw_law_9 51 rfl) ho2 (by omega) (by decide) hov3 ?_
    refine ev_iload_6 (ev_dt dt_Lw_law_9 52 rfl) ?_
    refine ev_i2l (ev_dt dt_Lw_law_9 53 rfl) rfl ?_
    refine ev_lcmp (ev_dt dt_Lw_law_9 54 rfl) ?_
    refine ev_if_eqT (tgt := 974) (ev_dt dt_Lw_law_9 55 rfl) (by decide) (lgc (congrArg nI (en_total w1).symm)) ?_
    refine ev_goto (tgt := 1484) (ev_dt dt_Lw_law_9 58 rfl) (by decide) ?_
    refine ev_fg_5 (ev_fg_6 ?_)
    exact kk h2 _ _ _ (LI.mk hP2 hs hM2 ho2 (hR.ans (fun a a1 a2 a3 a4 => hA2 a a1 a2 a4) (li_best w1 w2 (cnt_ub hp24) hI2) rfl rfl rfl) (by omega)) (by omega) (by omega)
theorem c_top {E : ev_E} {X b L t tt d k n sz : Nat} {xs : Nat → Int32} {h : ev_h} {Q : ev_Q} (hE : ev_nok E) (hX : va_X b L xs E.2.2.2.1 E.2.2.2.1.heap) (hb : b < ev_b E) (hL : L ≤ 2560) (ht : 5 * t + 5 ≤ L) (htt : tt ≤ 50000) (hI : LI E X tt h sz) (kk : ∀ h' sz' k' n', LI E X (tt + 1) h' sz' → k ≤ k' → n ≤ n' → Ev E m_Lw_law (d + 62) 1484 [some (.ref b), some (.ref X), some (.ref (X + 78)), some (.ref (X + 107)), some (.int (nI (5 * t))), none, none] [] h' sz' k' n' Q) : Ev E m_Lw_law (d + 62) 977 [some (.ref b), some (.ref X), some (.ref (X + 78)), some (.ref (X + 107)), some (.int (nI (5 * t))), none, none] [] h sz (k + 3) (n + 27) Q := by
  obtain ⟨nc, al, fl, c, mr, cc, ac, nu, on, op, th, af, ff, V, qs, N, ed, zs, cs, ad, F, A, T, π, cn, co, cq, oq, sn, o, hP, hs, hM, ho, hR, hal⟩ := hI
  obtain rfl : F 1 = mr := hR.1.1
  obtain rfl : F 2 = nc := hR.2.1.1
  obtain rfl : F 3 = ac := hR.2.2.2.1.1
  obtain rfl : F 5 = fl := hR.2.2.2.2.1.1
  have hcn : cnt T (F 1) = c := en_total hR.1.2.2.2.2.1
  have hc24 : c ≤ 24 := hR.1.2.2.1
  have hm120 : F 1 ≤ 120 := hR.1.2.1
  have hnc : F 2 ≤ 24 := hR.2.1.2.1
  have hT := hR.1.2.2.2.1
  have hS := hR.2.1.2.2.1
  have hok := hR.2.1.2.2.2.1
  have hZ := hR.2.1.2.2.2.2.1
  have hC := hR.2.2.1.1
  have hcc : cc ≤ 4 := hC.2.2.2.1
  have hon : ∀ i, i < cc → on i = nI (cn i) ∧ cn i < 4 := fun i hi => ⟨(hR.2.2.1.2 i hi).1, (hC.2.2.2.2 i hi).2.1⟩
  have hop : ∀ i, i < cc → op i = nI (co i) ∧ co i < 6 := fun i hi => ⟨(hR.2.2.1.2 i hi).2, (hC.2.2.2.2 i hi).2.2.2.1⟩
  have hps : ∀ i, i < c → ((fun j => okb cn co th (V j) cc) i = true ↔ okC cc cn co th (V i)) := fun i _ => okb_iff cc
  have hqn : ∀ s, s < 4 → (qs s).1 ≤ F 2 := fun s hs => (hR.2.2.2.2.2 s hs).1.2.1
  have hp24 := rw_24 (qc := cc) (a := cn) (b := co) (t := th) hR.1
  have hokT := hR.2.1.okT
  refine ev_aload_1 (ev_dt dt_Lw_law_9 59 rfl) ?_
  refine ev_aload_0 (ev_dt dt_Lw_law_10 0 rfl) ?_
  refine ev_iload_4 (ev_dt dt_Lw_law_10 1 rfl) ?_
  refine ev_ic1 (ev_dt dt_Lw_law_10 2 rfl) ?_
  refine ev_addn (ev_dt dt_Lw_law_10 3 rfl) ?_
  refine ev_sld (ev_dt dt_Lw_law_10 4 rfl) hX hb (by omega) (by omega) ?_
  refine ev_aload_0 (ev_dt dt_Lw_law_10 5 rfl) ?_
  refine ev_iload_4 (ev_dt dt_Lw_law_10 6 rfl) ?_
  refine ev_ic2 (ev_dt dt_Lw_law_10 7 rfl) ?_
  refine ev_addn (ev_dt dt_Lw_law_10 8 rfl) ?_
  refine ev_sld (ev_dt dt_Lw_law_10 9 rfl) hX hb (by omega) (by omega) ?_
  refine ev_aload_3 (ev_dt dt_Lw_law_10 10 rfl) ?_
  refine ev_callS (ev_dt dt_Lw_law_10 11 rfl) s_Lw_123 [.ref X, .int (xs (5 * t + 1)), .int (xs (5 * t + 2)), .ref (X + 107)] rfl np_Lw_top rfl (ev_lk_of (j := 1) rfl rfl) ?_
  refine ev_aload_3 (ev_dt dt_Lw_top_0 0 rfl) ?_
  refine ev_ic0 (ev_dt dt_Lw_top_0 1 rfl) ?_
  refine ev_aload_0 (ev_dt dt_Lw_top_0 2 rfl) ?_
  refine ev_iload_1 (ev_dt dt_Lw_top_0 3 rfl) ?_
  refine ev_iload_2 (ev_dt dt_Lw_top_0 4 rfl) ?_
  refine ev_callV (ev_dt dt_Lw_top_0 5 rfl) v_Lw_47_0 hP.1 [.int (xs (5 * t + 1)), .int (xs (5 * t + 2))] rfl np_PT_top rfl (ev_lk_of (j := 0) rfl rfl) (t_PT_top (d := d) (cn := cn) (co := co) (ps := fun j => okb cn co th (V j) cc) hnc hc24 hcc hon hop hps hok hs hP (fun hx h1 hP1 hs1 hf1 he1 => ev_rt ?_) (fun i hi ex hneg h1 hP1 hs1 hf1 he1 => ev_rt ?_) (fun i t' hi ex ht' ey h1 c' f' hc' hf' hP1 hf1 => ev_r1 ?_))
  · have hM1 := hM.cF hf1
    have ho1 := (hf1 (X + 107) (by omega) (by omega)).trans ho
    refine ev_catch1 rfl rfl (by decide) wl_19 rfl wc_13 he1 ?_
    refine ev_astore_4 (ev_dt dt_Lw_top_0 9 rfl) (by decide) rfl ?_
    refine ev_ic1 (ev_dt dt_Lw_top_0 10 rfl) ?_
    refine ev_ireturn (ev_dt dt_Lw_top_0 11 rfl) rfl rfl (ev_r1 ?_)
    refine ev_istore_5 (ev_dt dt_Lw_law_10 12 rfl) (by decide) rfl ?_
    refine ev_aload_2 (ev_dt dt_Lw_law_10 13 rfl) ?_
    refine ev_aload_0 (ev_dt dt_Lw_law_10 14 rfl) ?_
    refine ev_iload_4 (ev_dt dt_Lw_law_10 15 rfl) ?_
    refine ev_ic1 (ev_dt dt_Lw_law_10 16 rfl) ?_
    refine ev_addn (ev_dt dt_Lw_law_10 17 rfl) ?_
    refine ev_sld (ev_dt dt_Lw_law_10 18 rfl) hX hb (by omega) (by omega) ?_
    refine ev_aload_0 (ev_dt dt_Lw_law_10 19 rfl) ?_
    refine ev_iload_4 (ev_dt dt_Lw_law_10 20 rfl) ?_
    refine ev_ic2 (ev_dt dt_Lw_law_10 21 rfl) ?_
    refine ev_addn (ev_dt dt_Lw_law_10 22 rfl) ?_
    refine ev_sld (ev_dt dt_Lw_law_10 23 rfl) hX hb (by omega) (by omega) ?_
    refine ev_callV (ev_dt dt_Lw_law_10 24 rfl) v_Lw_125_10 hM1.1 [.int (xs (5 * t + 1)), .int (xs (5 * t + 2))] rfl np_Md_top rfl (ev_lk_of (j := 2) rfl rfl) (r_top (d := d + 56) hM1 hS hnc rfl hC hok hm120 hp24 (fun _ h2 hM2 hf2 => ev_r1 ?_) (fun i hi ex _ => False.elim (hx i hi ex)) (fun i t' hi ex _ _ => False.elim (hx i hi ex)))
    have hP2 := hP1.byRef hf2
    have ho2 := (hf2 (X + 107) (Or.inr (by omega))).trans ho1
    refine ev_istore_6 (ev_dt dt_Lw_law_10 25 rfl) (by decide) rfl ?_
    refine ev_aload_2 (ev_dt dt_Lw_law_10 26 rfl) ?_
    refine ev_callV (ev_dt dt_Lw_law_10 27 rfl) v_Lw_75_10 hM2.1 [] rfl np_Md_thrown rfl (ev_lk_of (j := 0) rfl rfl) (r_thrown hM2 (ev_r1 ?_))
    refine ev_iload_5 (ev_dt dt_Lw_law_10 28 rfl) ?_
    refine ev_icmp_eqT (tgt := 1025) (ev_dt dt_Lw_law_10 29 rfl) (by decide) rfl ?_
    refine ev_iload_5 (ev_dt dt_Lw_law_10 32 rfl) ?_
    refine ev_if_neT (tgt := 1042) (ev_dt dt_Lw_law_10 33 rfl) (by decide) (by decide +kernel) ?_
    refine ev_goto (tgt := 1484) (ev_dt dt_Lw_law_10 43 rfl) (by decide) ?_
    refine ev_fg_5 (ev_fg_6 ?_)
    exact kk h2 _ _ _ (LI.mk hP2 hs1 hM2 ho2 hR.thr (by omega)) (by omega) (by omega)
  · have hM1 := hM.cF hf1
    have ho1 := (hf1 (X + 107) (by omega) (by omega)).trans ho
    refine ev_catch2n rfl rfl rfl (by decide) (by decide) wl_19 wl_24 rfl hE (by decide +kernel) wc_12 he1 ?_
    refine ev_astore_4 (ev_dt dt_Lw_top_0 12 rfl) (by decide) rfl ?_
    refine ev_ic2 (ev_dt dt_Lw_top_0 13 rfl) ?_
    refine ev_ireturn (ev_dt dt_Lw_top_0 14 rfl) rfl rfl (ev_r1 ?_)
    refine ev_istore_5 (ev_dt dt_Lw_law_10 12 rfl) (by decide) rfl ?_
    refine ev_aload_2 (ev_dt dt_Lw_law_10 13 rfl) ?_
    refine ev_aload_0 (ev_dt dt_Lw_law_10 14 rfl) ?_
    refine ev_iload_4 (ev_dt dt_Lw_law_10 15 rfl) ?_
    refine ev_ic1 (ev_dt dt_Lw_law_10 16 rfl) ?_
    refine ev_addn (ev_dt dt_Lw_law_10 17 rfl) ?_
    refine ev_sld (ev_dt dt_Lw_law_10 18 rfl) hX hb (by omega) (by omega) ?_
    refine ev_aload_0 (ev_dt dt_Lw_law_10 19 rfl) ?_
    refine ev_iload_4 (ev_dt dt_Lw_law_10 20 rfl) ?_
    refine ev_ic2 (ev_dt dt_Lw_law_10 21 rfl) ?_
    refine ev_addn (ev_dt dt_Lw_law_10 22 rfl) ?_
    refine ev_sld (ev_dt dt_Lw_law_10 23 rfl) hX hb (by omega) (by omega) ?_
    refine ev_callV (ev_dt dt_Lw_law_10 24 rfl) v_Lw_125_10 hM1.1 [.int (xs (5 * t + 1)), .int (xs (5 * t + 2))] rfl np_Md_top rfl (ev_lk_of (j := 2) rfl rfl) (r_top (d := d + 56) hM1 hS hnc rfl hC hok hm120 hp24 (fun g => False.elim (g i hi ex)) (fun _ _ _ _ h2 hM2 hf2 => ev_r1 ?_) (fun i t' hi ex ht' ey => False.elim (by rw [ey] at hneg; exact nI_pos ht' hneg)))
    have hP2 := hP1.byRef hf2
    have ho2 := (hf2 (X + 107) (Or.inr (by omega))).trans ho1
    refine ev_istore_6 (ev_dt dt_Lw_law_10 25 rfl) (by decide) rfl ?_
    refine ev_aload_2 (ev_dt dt_Lw_law_10 26 rfl) ?_
    refine ev_callV (ev_dt dt_Lw_law_10 27 rfl) v_Lw_75_10 hM2.1 [] rfl np_Md_thrown rfl (ev_lk_of (j := 0) rfl rfl) (r_thrown hM2 (ev_r1 ?_))
    refine ev_iload_5 (ev_dt dt_Lw_law_10 28 rfl) ?_
    refine ev_icmp_eqT (tgt := 1025) (ev_dt dt_Lw_law_10 29 rfl) (by decide) rfl ?_
    refine ev_iload_5 (ev_dt dt_Lw_law_10 32 rfl) ?_
    refine ev_if_neT (tgt := 1042) (ev_dt dt_Lw_law_10 33 rfl) (by decide) (by decide +kernel) ?_
    refine ev_goto (tgt := 1484) (ev_dt dt_Lw_law_10 43 rfl) (by decide) ?_
    refine ev_fg_5 (ev_fg_6 ?_)
    exact kk h2 _ _ _ (LI.mk hP2 hs1 hM2 ho2 hR.thr (by omega)) (by omega) (by omega)
  · have hM1 := hM.cF hf1
    have ho1 := (hf1 (X + 107) (by omega) (by omega)).trans ho
    refine ev_i2l (ev_dt dt_Lw_top_0 6 rfl) rfl ?_
    refine ev_outS (ev_dt dt_Lw_top_0 7 rfl) hP1 hM1 ho1 (fun h3 o3 hP3 hM3 ho3 hov3 => ?_)
    refine ev_goto (tgt := 21) (ev_dt dt_Lw_top_0 8 rfl) (by decide) ?_
    refine ev_ic0 (ev_dt dt_Lw_top_0 15 rfl) ?_
    refine ev_ireturn (ev_dt dt_Lw_top_0 16 rfl) rfl rfl (ev_r1 ?_)
    refine ev_istore_5 (ev_dt dt_Lw_law_10 12 rfl) (by decide) rfl ?_
    refine ev_aload_2 (ev_dt dt_Lw_law_10 13 rfl) ?_
    refine ev_aload_0 (ev_dt dt_Lw_law_10 14 rfl) ?_
    refine ev_iload_4 (ev_dt dt_Lw_law_10 15 rfl) ?_
    refine ev_ic1 (ev_dt dt_Lw_law_10 16 rfl) ?_
    refine ev_addn (ev_dt dt_Lw_law_10 17 rfl) ?_
    refine ev_sld (ev_dt dt_Lw_law_10 18 rfl) hX hb (by omega) (by omega) ?_
    refine ev_aload_0 (ev_dt dt_Lw_law_10 19 rfl) ?_
    refine ev_iload_4 (ev_dt dt_Lw_law_10 20 rfl) ?_
    refine ev_ic2 (ev_dt dt_Lw_law_10 21 rfl) ?_
    refine ev_addn (ev_dt dt_Lw_law_10 22 rfl) ?_
    refine ev_sld (ev_dt dt_Lw_law_10 23 rfl) hX hb (by omega) (by omega) ?_
    refine ev_callV (ev_dt dt_Lw_law_10 24 rfl) v_Lw_125_10 hM3.1 [.int (xs (5 * t + 1)), .int (xs (5 * t + 2))] rfl np_Md_top rfl (ev_lk_of (j := 2) rfl rfl) (r_top (d := d + 56) hM3 hS hnc rfl hC hok hm120 hp24 (fun g => False.elim (g i hi ex)) (fun i2 hi2 ex2 hneg => False.elim (by rw [ey] at hneg; exact nI_pos ht' hneg)) (fun i2 t2 hi2 ex2 ht2 ey2 h2 A2 c2 hA2 hc2 hI2 hM2 hf2 => ev_r1 ?_))
    obtain rfl : i = i2 := nI_inj (by omega) (by omega) ex ex2
    obtain rfl : t' = t2 := (nI_eq ht' ht2).mp (ey.symm.trans ey2)
    have wl := li_top hR hi hc' hf' hc2 hI2
    have hP2 := hP3.byRef hf2
    have ho2 := (hf2 (X + 107) (Or.inr (by omega))).trans ho3
    refine ev_istore_6 (ev_dt dt_Lw_law_10 25 rfl) (by decide) rfl ?_
    refine ev_aload_2 (ev_dt dt_Lw_law_10 26 rfl) ?_
    refine ev_callV (ev_dt dt_Lw_law_10 27 rfl) v_Lw_75_10 hM2.1 [] rfl np_Md_thrown rfl (ev_lk_of (j := 0) rfl rfl) (r_thrown hM2 (ev_r1 ?_))
    refine ev_iload_5 (ev_dt dt_Lw_law_10 28 rfl) ?_
    refine ev_icmp_eqT (tgt := 1025) (ev_dt dt_Lw_law_10 29 rfl) (by decide) rfl ?_
    refine ev_iload_5 (ev_dt dt_Lw_law_10 32 rfl) ?_
    refine ev_if_neF (tgt := 1042) (ev_dt dt_Lw_law_10 33 rfl) (by decide) z00 ?_
    refine ev_aload_3 (ev_dt dt_Lw_law_10 34 rfl) ?_
    refine ev_ic0 (ev_dt dt_Lw_law_10 35 rfl) ?_
    refine ev_lald (ev_dt dt_Lw_law_10 36 rfl) ho2 (by omega) (by decide) hov3 ?_
    refine ev_iload_6 (ev_dt dt_Lw_law_10 37 rfl) ?_
    refine ev_i2l (ev_dt dt_Lw_law_10 38 rfl) rfl ?_
    refine ev_lcmp (ev_dt dt_Lw_law_10 39 rfl) ?_
    refine ev_if_eqT (tgt := 1042) (ev_dt dt_Lw_law_10 40 rfl) (by decide) (lgc (congrArg nI wl.1.symm)) ?_
    refine ev_goto (tgt := 1484) (ev_dt dt_Lw_law_10 43 rfl) (by decide) ?_
    refine ev_fg_5 (ev_fg_6 ?_)
    exact kk h2 _ _ _ (LI.mk hP2 hs hM2 ho2 (hR.ans (fun a a1 a2 a3 a4 => hA2 a a1 a3 a4) wl rfl rfl rfl) (by omega)) (by omega) (by omega)
theorem c_level {E : ev_E} {X b L t tt d k n sz : Nat} {xs : Nat → Int32} {h : ev_h} {Q : ev_Q} (hE : ev_nok E) (hX : va_X b L xs E.2.2.2.1 E.2.2.2.1.heap) (hb : b < ev_b E) (hL : L ≤ 2560) (ht : 5 * t + 5 ≤ L) (htt : tt ≤ 50000) (hI : LI E X tt h sz) (kk : ∀ h' sz' k' n', LI E X (tt + 1) h' sz' → k ≤ k' → n ≤ n' → Ev E m_Lw_law (d + 62) 1484 [some (.ref b), some (.ref X), some (.ref (X + 78)), some (.ref (X + 107)), some (.int (nI (5 * t))), none, none] [] h' sz' k' n' Q) : Ev E m_Lw_law (d + 62) 1045 [some (.ref b), some (.ref X), some (.ref (X + 78)), some (.ref (X + 107)), some (.int (nI (5 * t))), none, none] [] h sz (k + 3) (n + 27) Q := by
  obtain ⟨nc, al, fl, c, mr, cc, ac, nu, on, op, th, af, ff, V, qs, N, ed, zs, cs, ad, F, A, T, π, cn, co, cq, oq, sn, o, hP, hs, hM, ho, hR, hal⟩ := hI
  obtain rfl : F 1 = mr := hR.1.1
  obtain rfl : F 2 = nc := hR.2.1.1
  obtain rfl : F 3 = ac := hR.2.2.2.1.1
  obtain rfl : F 5 = fl := hR.2.2.2.2.1.1
  have hcn : cnt T (F 1) = c := en_total hR.1.2.2.2.2.1
  have hc24 : c ≤ 24 := hR.1.2.2.1
  have hm120 : F 1 ≤ 120 := hR.1.2.1
  have hnc : F 2 ≤ 24 := hR.2.1.2.1
  have hT := hR.1.2.2.2.1
  have hS := hR.2.1.2.2.1
  have hok := hR.2.1.2.2.2.1
  have hZ := hR.2.1.2.2.2.2.1
  have hC := hR.2.2.1.1
  have hcc : cc ≤ 4 := hC.2.2.2.1
  have hon : ∀ i, i < cc → on i = nI (cn i) ∧ cn i < 4 := fun i hi => ⟨(hR.2.2.1.2 i hi).1, (hC.2.2.2.2 i hi).2.1⟩
  have hop : ∀ i, i < cc → op i = nI (co i) ∧ co i < 6 := fun i hi => ⟨(hR.2.2.1.2 i hi).2, (hC.2.2.2.2 i hi).2.2.2.1⟩
  have hps : ∀ i, i < c → ((fun j => okb cn co th (V j) cc) i = true ↔ okC cc cn co th (V i)) := fun i _ => okb_iff cc
  have hqn : ∀ s, s < 4 → (qs s).1 ≤ F 2 := fun s hs => (hR.2.2.2.2.2 s hs).1.2.1
  have hp24 := rw_24 (qc := cc) (a := cn) (b := co) (t := th) hR.1
  have hokT := hR.2.1.okT
  refine ev_aload_1 (ev_dt dt_Lw_law_10 44 rfl) ?_
  refine ev_aload_0 (ev_dt dt_Lw_law_10 45 rfl) ?_
  refine ev_iload_4 (ev_dt dt_Lw_law_10 46 rfl) ?_
  refine ev_ic1 (ev_dt dt_Lw_law_10 47 rfl) ?_
  refine ev_addn (ev_dt dt_Lw_law_10 48 rfl) ?_
  refine ev_sld (ev_dt dt_Lw_law_10 49 rfl) hX hb (by omega) (by omega) ?_
  refine ev_aload_0 (ev_dt dt_Lw_law_10 50 rfl) ?_
  refine ev_iload_4 (ev_dt dt_Lw_law_10 51 rfl) ?_
  refine ev_ic2 (ev_dt dt_Lw_law_10 52 rfl) ?_
  refine ev_addn (ev_dt dt_Lw_law_10 53 rfl) ?_
  refine ev_sld (ev_dt dt_Lw_law_10 54 rfl) hX hb (by omega) (by omega) ?_
  refine ev_aload_3 (ev_dt dt_Lw_law_10 55 rfl) ?_
  refine ev_callS (ev_dt dt_Lw_law_10 56 rfl) s_Lw_126 [.ref X, .int (xs (5 * t + 1)), .int (xs (5 * t + 2)), .ref (X + 107)] rfl np_Lw_level rfl (ev_lk_of (j := 1) rfl rfl) ?_
  refine ev_aload_3 (ev_dt dt_Lw_level_0 0 rfl) ?_
  refine ev_ic0 (ev_dt dt_Lw_level_0 1 rfl) ?_
  refine ev_aload_0 (ev_dt dt_Lw_level_0 2 rfl) ?_
  refine ev_iload_1 (ev_dt dt_Lw_level_0 3 rfl) ?_
  refine ev_iload_2 (ev_dt dt_Lw_level_0 4 rfl) ?_
  refine ev_callV (ev_dt dt_Lw_level_0 5 rfl) v_Lw_50_0 hP.1 [.int (xs (5 * t + 1)), .int (xs (5 * t + 2))] rfl np_PT_level rfl (ev_lk_of (j := 1) rfl rfl) (t_PT_level (d := d) (cn := cn) (co := co) (ps := fun j => okb cn co th (V j) cc) hnc hc24 hcc hon hop hps hok hs hP (fun hx h1 hP1 hs1 hf1 he1 => ev_rt ?_) (fun i j hi ex hj ey h1 hP1 hf1 => ev_r1 ?_))
  · have hM1 := hM.cF hf1
    have ho1 := (hf1 (X + 107) (by omega) (by omega)).trans ho
    refine ev_catch1 rfl rfl (by decide) wl_19 rfl wc_13 he1 ?_
    refine ev_astore_4 (ev_dt dt_Lw_level_0 9 rfl) (by decide) rfl ?_
    refine ev_ic1 (ev_dt dt_Lw_level_0 10 rfl) ?_
    refine ev_ireturn (ev_dt dt_Lw_level_0 11 rfl) rfl rfl (ev_r1 ?_)
    refine ev_istore_5 (ev_dt dt_Lw_law_10 57 rfl) (by decide) rfl ?_
    refine ev_aload_2 (ev_dt dt_Lw_law_10 58 rfl) ?_
    refine ev_aload_0 (ev_dt dt_Lw_law_10 59 rfl) ?_
    refine ev_iload_4 (ev_dt dt_Lw_law_11 0 rfl) ?_
    refine ev_ic1 (ev_dt dt_Lw_law_11 1 rfl) ?_
    refine ev_addn (ev_dt dt_Lw_law_11 2 rfl) ?_
    refine ev_sld (ev_dt dt_Lw_law_11 3 rfl) hX hb (by omega) (by omega) ?_
    refine ev_aload_0 (ev_dt dt_Lw_law_11 4 rfl) ?_
    refine ev_iload_4 (ev_dt dt_Lw_law_11 5 rfl) ?_
    refine ev_ic2 (ev_dt dt_Lw_law_11 6 rfl) ?_
    refine ev_addn (ev_dt dt_Lw_law_11 7 rfl) ?_
    refine ev_sld (ev_dt dt_Lw_law_11 8 rfl) hX hb (by omega) (by omega) ?_
    refine ev_callV (ev_dt dt_Lw_law_11 9 rfl) v_Lw_128_10 hM1.1 [.int (xs (5 * t + 1)), .int (xs (5 * t + 2))] rfl np_Md_level rfl (ev_lk_of (j := 0) rfl rfl) (r_level (d := d + 56) hM1 hS hnc rfl hC hok hm120 hp24 (fun _ h2 hM2 hf2 => ev_r1 ?_) (fun i r hi ei hr hTr ex => False.elim (hx.elim (fun g => g i hi ei) (fun g => by obtain ⟨j', hj', ej', -⟩ := rw_in hR.1 hr hTr ex; exact g j' hj' ej'))))
    have hP2 := hP1.byRef hf2
    have ho2 := (hf2 (X + 107) (Or.inr (by omega))).trans ho1
    refine ev_istore_6 (ev_dt dt_Lw_law_11 10 rfl) (by decide) rfl ?_
    refine ev_aload_2 (ev_dt dt_Lw_law_11 11 rfl) ?_
    refine ev_callV (ev_dt dt_Lw_law_11 12 rfl) v_Lw_75_10 hM2.1 [] rfl np_Md_thrown rfl (ev_lk_of (j := 0) rfl rfl) (r_thrown hM2 (ev_r1 ?_))
    refine ev_iload_5 (ev_dt dt_Lw_law_11 13 rfl) ?_
    refine ev_icmp_eqT (tgt := 1093) (ev_dt dt_Lw_law_11 14 rfl) (by decide) rfl ?_
    refine ev_iload_5 (ev_dt dt_Lw_law_11 17 rfl) ?_
    refine ev_if_neT (tgt := 1110) (ev_dt dt_Lw_law_11 18 rfl) (by decide) (by decide +kernel) ?_
    refine ev_goto (tgt := 1484) (ev_dt dt_Lw_law_11 28 rfl) (by decide) ?_
    refine ev_fg_5 (ev_fg_6 ?_)
    exact kk h2 _ _ _ (LI.mk hP2 hs1 hM2 ho2 hR.thr (by omega)) (by omega) (by omega)
  · have hM1 := hM.cF hf1
    have ho1 := (hf1 (X + 107) (by omega) (by omega)).trans ho
    refine ev_i2l (ev_dt dt_Lw_level_0 6 rfl) rfl ?_
    refine ev_outS (ev_dt dt_Lw_level_0 7 rfl) hP1 hM1 ho1 (fun h3 o3 hP3 hM3 ho3 hov3 => ?_)
    refine ev_goto (tgt := 17) (ev_dt dt_Lw_level_0 8 rfl) (by decide) ?_
    refine ev_ic0 (ev_dt dt_Lw_level_0 12 rfl) ?_
    refine ev_ireturn (ev_dt dt_Lw_level_0 13 rfl) rfl rfl (ev_r1 ?_)
    refine ev_istore_5 (ev_dt dt_Lw_law_10 57 rfl) (by decide) rfl ?_
    refine ev_aload_2 (ev_dt dt_Lw_law_10 58 rfl) ?_
    refine ev_aload_0 (ev_dt dt_Lw_law_10 59 rfl) ?_
    refine ev_iload_4 (ev_dt dt_Lw_law_11 0 rfl) ?_
    refine ev_ic1 (ev_dt dt_Lw_law_11 1 rfl) ?_
    refine ev_addn (ev_dt dt_Lw_law_11 2 rfl) ?_
    refine ev_sld (ev_dt dt_Lw_law_11 3 rfl) hX hb (by omega) (by omega) ?_
    refine ev_aload_0 (ev_dt dt_Lw_law_11 4 rfl) ?_
    refine ev_iload_4 (ev_dt dt_Lw_law_11 5 rfl) ?_
    refine ev_ic2 (ev_dt dt_Lw_law_11 6 rfl) ?_
    refine ev_addn (ev_dt dt_Lw_law_11 7 rfl) ?_
    refine ev_sld (ev_dt dt_Lw_law_11 8 rfl) hX hb (by omega) (by omega) ?_
    refine ev_callV (ev_dt dt_Lw_law_11 9 rfl) v_Lw_128_10 hM3.1 [.int (xs (5 * t + 1)), .int (xs (5 * t + 2))] rfl np_Md_level rfl (ev_lk_of (j := 0) rfl rfl) (r_level (d := d + 56) hM3 hS hnc rfl hC hok hm120 hp24 (fun g => False.elim (g.elim (fun g => g i hi ex) (fun g => g _ (rw_out hR.1 hj ey).1 (rw_out hR.1 hj ey).2.1 (rw_out hR.1 hj ey).2.2))) (fun i2 r2 hi2 ex2 hr2 hTr ey2 h2 A2 hA2 hM2 hf2 => ev_r1 ?_))
    obtain rfl : i = i2 := nI_inj (by omega) (by omega) ex ex2
    obtain rfl : r2 = π j := nI_inj (by omega) (by have := (rw_out hR.1 hj ey).1; omega) ey2 (rw_out hR.1 hj ey).2.2
    have hP2 := hP3.byRef hf2
    have ho2 := (hf2 (X + 107) (Or.inr (by omega))).trans ho3
    refine ev_istore_6 (ev_dt dt_Lw_law_11 10 rfl) (by decide) rfl ?_
    refine ev_aload_2 (ev_dt dt_Lw_law_11 11 rfl) ?_
    refine ev_callV (ev_dt dt_Lw_law_11 12 rfl) v_Lw_75_10 hM2.1 [] rfl np_Md_thrown rfl (ev_lk_of (j := 0) rfl rfl) (r_thrown hM2 (ev_r1 ?_))
    refine ev_iload_5 (ev_dt dt_Lw_law_11 13 rfl) ?_
    refine ev_icmp_eqT (tgt := 1093) (ev_dt dt_Lw_law_11 14 rfl) (by decide) rfl ?_
    refine ev_iload_5 (ev_dt dt_Lw_law_11 17 rfl) ?_
    refine ev_if_neF (tgt := 1110) (ev_dt dt_Lw_law_11 18 rfl) (by decide) z00 ?_
    refine ev_aload_3 (ev_dt dt_Lw_law_11 19 rfl) ?_
    refine ev_ic0 (ev_dt dt_Lw_law_11 20 rfl) ?_
    refine ev_lald (ev_dt dt_Lw_law_11 21 rfl) ho2 (by omega) (by decide) hov3 ?_
    refine ev_iload_6 (ev_dt dt_Lw_law_11 22 rfl) ?_
    refine ev_i2l (ev_dt dt_Lw_law_11 23 rfl) rfl ?_
    refine ev_lcmp (ev_dt dt_Lw_law_11 24 rfl) ?_
    refine ev_if_eqT (tgt := 1110) (ev_dt dt_Lw_law_11 25 rfl) (by decide) (lgc (congrArg nI (lv_eq hR hi j hj))) ?_
    refine ev_goto (tgt := 1484) (ev_dt dt_Lw_law_11 28 rfl) (by decide) ?_
    refine ev_fg_5 (ev_fg_6 ?_)
    exact kk h2 _ _ _ (LI.mk hP2 hs hM2 ho2 (hR.scr (vA_scr hA2) rfl rfl rfl rfl) (by omega)) (by omega) (by omega)
