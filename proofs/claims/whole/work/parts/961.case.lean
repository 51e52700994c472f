/-! The law's cases (written by gen_law.py over walk.py). -/
theorem c_order {E : ev_E} {X b L t tt d k n sz : Nat} {xs : Nat → Int32} {h : ev_h} {Q : ev_Q} (hE : ev_nok E) (hX : va_X b L xs E.2.2.2.1 E.2.2.2.1.heap) (hb : b < ev_b E) (hL : L ≤ 2560) (ht : 5 * t + 5 ≤ L) (htt : tt ≤ 50000) (hI : LI E X tt h sz) (kk : ∀ h' sz' k' n', LI E X (tt + 1) h' sz' → k ≤ k' → n ≤ n' → Ev E m_Lw_law (d + 62) 1484 [some (.ref b), some (.ref X), some (.ref (X + 78)), some (.ref (X + 107)), some (.int (nI (5 * t))), none, none] [] h' sz' k' n' Q) : Ev E m_Lw_law (d + 62) 374 [some (.ref b), some (.ref X), some (.ref (X + 78)), some (.ref (X + 107)), some (.int (nI (5 * t))), none, none] [] h sz (k + 3) (n + 27) Q := by
  obtain ⟨nc, al, fl, c, mr, cc, ac, nu, on, op, th, af, ff, V, qs, N, ed, zs, cs, ad, F, A, T, π, cn, co, cq, oq, sn, o, hP, hs, hM, ho, hR, hal⟩ := hI
  obtain rfl : F 1 = mr := hR.1.1
  obtain rfl : F 2 = nc := hR.2.1.1
  obtain rfl : F 3 = ac := hR.2.2.2.1.1
  obtain rfl : F 5 = fl := hR.2.2.2.2.1.1
  have hcn : cnt T (F 1) = c := en_total hR.1.2.2.2.2.1
  have hc24 : c ≤ 24 := hR.1.2.2.1
  have hm120 : F 1 ≤ 120 := hR.1.2.1
  have hnc : F 2 ≤ 24 := hR.2.1.2.1
  have hT := hR.1.2.2.2.1
  have hS := hR.2.1.2.2.1
  have hok := hR.2.1.2.2.2.1
  have hZ := hR.2.1.2.2.2.2.1
  have hC := hR.2.2.1.1
  have hcc : cc ≤ 4 := hC.2.2.2.1
  have hon : ∀ i, i < cc → on i = nI (cn i) ∧ cn i < 4 := fun i hi => ⟨(hR.2.2.1.2 i hi).1, (hC.2.2.2.2 i hi).2.1⟩
  have hop : ∀ i, i < cc → op i = nI (co i) ∧ co i < 6 := fun i hi => ⟨(hR.2.2.1.2 i hi).2, (hC.2.2.2.2 i hi).2.2.2.1⟩
  have hps : ∀ i, i < c → ((fun j => okb cn co th (V j) cc) i = true ↔ okC cc cn co th (V i)) := fun i _ => okb_iff cc
  have hqn : ∀ s, s < 4 → (qs s).1 ≤ F 2 := fun s hs => (hR.2.2.2.2.2 s hs).1.2.1
  have hp24 := rw_24 (qc := cc) (a := cn) (b := co) (t := th) hR.1
  have hokT := hR.2.1.okT
  refine ev_aload_1 (ev_dt dt_Lw_law_3 9 rfl) ?_
  refine ev_aload_0 (ev_dt dt_Lw_law_3 10 rfl) ?_
  refine ev_iload_4 (ev_dt dt_Lw_law_3 11 rfl) ?_
  refine ev_ic1 (ev_dt dt_Lw_law_3 12 rfl) ?_
  refine ev_addn (ev_dt dt_Lw_law_3 13 rfl) ?_
  refine ev_sld (ev_dt dt_Lw_law_3 14 rfl) hX hb (by omega) (by omega) ?_
  refine ev_aload_0 (ev_dt dt_Lw_law_3 15 rfl) ?_
  refine ev_iload_4 (ev_dt dt_Lw_law_3 16 rfl) ?_
  refine ev_ic2 (ev_dt dt_Lw_law_3 17 rfl) ?_
  refine ev_addn (ev_dt dt_Lw_law_3 18 rfl) ?_
  refine ev_sld (ev_dt dt_Lw_law_3 19 rfl) hX hb (by omega) (by omega) ?_
  refine ev_aload_0 (ev_dt dt_Lw_law_3 20 rfl) ?_
  refine ev_iload_4 (ev_dt dt_Lw_law_3 21 rfl) ?_
  refine ev_ic3 (ev_dt dt_Lw_law_3 22 rfl) ?_
  refine ev_addn (ev_dt dt_Lw_law_3 23 rfl) ?_
  refine ev_sld (ev_dt dt_Lw_law_3 24 rfl) hX hb (by omega) (by omega) ?_
  refine ev_aload_0 (ev_dt dt_Lw_law_3 25 rfl) ?_
  refine ev_iload_4 (ev_dt dt_Lw_law_3 26 rfl) ?_
  refine ev_ic4 (ev_dt dt_Lw_law_3 27 rfl) ?_
  refine ev_addn (ev_dt dt_Lw_law_3 28 rfl) ?_
  refine ev_sld (ev_dt dt_Lw_law_3 29 rfl) hX hb (by omega) (by omega) ?_
  refine ev_aload_3 (ev_dt dt_Lw_law_3 30 rfl) ?_
  refine ev_callS (ev_dt dt_Lw_law_3 31 rfl) s_Lw_92 [.ref X, .int (xs (5 * t + 1)), .int (xs (5 * t + 2)), .int (xs (5 * t + 3)), .int (xs (5 * t + 4)), .ref (X + 107)] rfl np_Lw_order rfl (ev_lk_of (j := 1) rfl rfl) ?_
  refine ev_aload_5 (ev_dt dt_Lw_order_0 0 rfl) ?_
  refine ev_ic0 (ev_dt dt_Lw_order_0 1 rfl) ?_
  refine ev_aload_0 (ev_dt dt_Lw_order_0 2 rfl) ?_
  refine ev_iload_1 (ev_dt dt_Lw_order_0 3 rfl) ?_
  refine ev_iload_2 (ev_dt dt_Lw_order_0 4 rfl) ?_
  refine ev_iload_3 (ev_dt dt_Lw_order_0 5 rfl) ?_
  refine ev_iload_4 (ev_dt dt_Lw_order_0 6 rfl) ?_
  refine ev_callV (ev_dt dt_Lw_order_0 7 rfl) v_Lw_21_0 hP.1 [.int (xs (5 * t + 1)), .int (xs (5 * t + 2)), .int (xs (5 * t + 3)), .int (xs (5 * t + 4))] rfl np_PT_order rfl (ev_lk_of (j := 0) rfl rfl) (t_PT_order (d := d) hnc hqn hs hP (fun hx h1 hP1 hs1 hf1 he1 => ev_rt ?_) (fun kd cl hkd ex hcl ey hn h24 h1 hP1 hs1 hf1 he1 => ev_rt ?_) (fun kd cl hkd ex hcl ey hn hne h1 sz1 f hf hP1 hs1 hf1 => ev_r1 ?_))
  · have hM1 := hM.cF hf1
    have ho1 := (hf1 (X + 107) (by omega) (by omega)).trans ho
    refine ev_catch1 rfl rfl (by decide) wl_24 rfl wc_12 he1 ?_
    refine ev_astore_6 (ev_dt dt_Lw_order_0 11 rfl) (by decide) rfl ?_
    refine ev_ic1 (ev_dt dt_Lw_order_0 12 rfl) ?_
    refine ev_ireturn (ev_dt dt_Lw_order_0 13 rfl) rfl rfl (ev_r1 ?_)
    refine ev_istore_5 (ev_dt dt_Lw_law_3 32 rfl) (by decide) rfl ?_
    refine ev_aload_2 (ev_dt dt_Lw_law_3 33 rfl) ?_
    refine ev_aload_0 (ev_dt dt_Lw_law_3 34 rfl) ?_
    refine ev_iload_4 (ev_dt dt_Lw_law_3 35 rfl) ?_
    refine ev_ic1 (ev_dt dt_Lw_law_3 36 rfl) ?_
    refine ev_addn (ev_dt dt_Lw_law_3 37 rfl) ?_
    refine ev_sld (ev_dt dt_Lw_law_3 38 rfl) hX hb (by omega) (by omega) ?_
    refine ev_aload_0 (ev_dt dt_Lw_law_3 39 rfl) ?_
    refine ev_iload_4 (ev_dt dt_Lw_law_3 40 rfl) ?_
    refine ev_ic2 (ev_dt dt_Lw_law_3 41 rfl) ?_
    refine ev_addn (ev_dt dt_Lw_law_3 42 rfl) ?_
    refine ev_sld (ev_dt dt_Lw_law_3 43 rfl) hX hb (by omega) (by omega) ?_
    refine ev_aload_0 (ev_dt dt_Lw_law_3 44 rfl) ?_
    refine ev_iload_4 (ev_dt dt_Lw_law_3 45 rfl) ?_
    refine ev_ic3 (ev_dt dt_Lw_law_3 46 rfl) ?_
    refine ev_addn (ev_dt dt_Lw_law_3 47 rfl) ?_
    refine ev_sld (ev_dt dt_Lw_law_3 48 rfl) hX hb (by omega) (by omega) ?_
    refine ev_aload_0 (ev_dt dt_Lw_law_3 49 rfl) ?_
    refine ev_iload_4 (ev_dt dt_Lw_law_3 50 rfl) ?_
    refine ev_ic4 (ev_dt dt_Lw_law_3 51 rfl) ?_
    refine ev_addn (ev_dt dt_Lw_law_3 52 rfl) ?_
    refine ev_sld (ev_dt dt_Lw_law_3 53 rfl) hX hb (by omega) (by omega) ?_
    refine ev_callV (ev_dt dt_Lw_law_3 54 rfl) v_Lw_94_10 hM1.1 [.int (xs (5 * t + 1)), .int (xs (5 * t + 2)), .int (xs (5 * t + 3)), .int (xs (5 * t + 4))] rfl np_Md_order rfl (ev_lk_of (j := 1) rfl rfl) (r_order (d := d + 60) hM1 hnc (fun _ h2 hM2 hf2 => ev_r1 ?_) (fun kd' cl' hkd' ex' hcl' ey' hn' _ => False.elim (cx_order hx hkd' ex' hcl' ey' hn')) (fun kd' cl' hkd' ex' hcl' ey' hn' _ => False.elim (cx_order hx hkd' ex' hcl' ey' hn')))
    have hP2 := hP1.byRef hf2
    have ho2 := (hf2 (X + 107) (Or.inr (by omega))).trans ho1
    refine ev_istore_6 (ev_dt dt_Lw_law_3 55 rfl) (by decide) rfl ?_
    refine ev_aload_2 (ev_dt dt_Lw_law_3 56 rfl) ?_
    refine ev_callV (ev_dt dt_Lw_law_3 57 rfl) v_Lw_75_10 hM2.1 [] rfl np_Md_thrown rfl (ev_lk_of (j := 0) rfl rfl) (r_thrown hM2 (ev_r1 ?_))
    refine ev_iload_5 (ev_dt dt_Lw_law_3 58 rfl) ?_
    refine ev_icmp_eqT (tgt := 446) (ev_dt dt_Lw_law_3 59 rfl) (by decide) rfl ?_
    refine ev_iload_5 (ev_dt dt_Lw_law_4 2 rfl) ?_
    refine ev_if_neT (tgt := 463) (ev_dt dt_Lw_law_4 3 rfl) (by decide) (by decide +kernel) ?_
    refine ev_goto (tgt := 1484) (ev_dt dt_Lw_law_4 13 rfl) (by decide) ?_
    refine ev_fg_5 (ev_fg_6 ?_)
    exact kk h2 _ _ _ (LI.mk hP2 hs1 hM2 ho2 hR.thr (by omega)) (by omega) (by omega)
  · have hM1 := hM.cF hf1
    have ho1 := (hf1 (X + 107) (by omega) (by omega)).trans ho
    refine ev_catch2n rfl rfl rfl (by decide) (by decide) wl_24 wl_13 rfl hE (by decide +kernel) wc_11 he1 ?_
    refine ev_astore_6 (ev_dt dt_Lw_order_0 14 rfl) (by decide) rfl ?_
    refine ev_ic2 (ev_dt dt_Lw_order_0 15 rfl) ?_
    refine ev_ireturn (ev_dt dt_Lw_order_0 16 rfl) rfl rfl (ev_r1 ?_)
    refine ev_istore_5 (ev_dt dt_Lw_law_3 32 rfl) (by decide) rfl ?_
    refine ev_aload_2 (ev_dt dt_Lw_law_3 33 rfl) ?_
    refine ev_aload_0 (ev_dt dt_Lw_law_3 34 rfl) ?_
    refine ev_iload_4 (ev_dt dt_Lw_law_3 35 rfl) ?_
    refine ev_ic1 (ev_dt dt_Lw_law_3 36 rfl) ?_
    refine ev_addn (ev_dt dt_Lw_law_3 37 rfl) ?_
    refine ev_sld (ev_dt dt_Lw_law_3 38 rfl) hX hb (by omega) (by omega) ?_
    refine ev_aload_0 (ev_dt dt_Lw_law_3 39 rfl) ?_
    refine ev_iload_4 (ev_dt dt_Lw_law_3 40 rfl) ?_
    refine ev_ic2 (ev_dt dt_Lw_law_3 41 rfl) ?_
    refine ev_addn (ev_dt dt_Lw_law_3 42 rfl) ?_
    refine ev_sld (ev_dt dt_Lw_law_3 43 rfl) hX hb (by omega) (by omega) ?_
    refine ev_aload_0 (ev_dt dt_Lw_law_3 44 rfl) ?_
    refine ev_iload_4 (ev_dt dt_Lw_law_3 45 rfl) ?_
    refine ev_ic3 (ev_dt dt_Lw_law_3 46 rfl) ?_
    refine ev_addn (ev_dt dt_Lw_law_3 47 rfl) ?_
    refine ev_sld (ev_dt dt_Lw_law_3 48 rfl) hX hb (by omega) (by omega) ?_
    refine ev_aload_0 (ev_dt dt_Lw_law_3 49 rfl) ?_
    refine ev_iload_4 (ev_dt dt_Lw_law_3 50 rfl) ?_
    refine ev_ic4 (ev_dt dt_Lw_law_3 51 rfl) ?_
    refine ev_addn (ev_dt dt_Lw_law_3 52 rfl) ?_
    refine ev_sld (ev_dt dt_Lw_law_3 53 rfl) hX hb (by omega) (by omega) ?_
    refine ev_callV (ev_dt dt_Lw_law_3 54 rfl) v_Lw_94_10 hM1.1 [.int (xs (5 * t + 1)), .int (xs (5 * t + 2)), .int (xs (5 * t + 3)), .int (xs (5 * t + 4))] rfl np_Md_order rfl (ev_lk_of (j := 1) rfl rfl) (r_order (d := d + 60) hM1 hnc (fun g => False.elim (cx_order g hkd ex hcl ey hn)) (fun kd' cl' hkd' ex' hcl' ey' hn' _ h2 hM2 hf2 => ev_r1 ?_) (fun kd' cl' hkd' ex' hcl' ey' hn' g => False.elim (g h24)))
    have hP2 := hP1.byRef hf2
    have ho2 := (hf2 (X + 107) (Or.inr (by omega))).trans ho1
    refine ev_istore_6 (ev_dt dt_Lw_law_3 55 rfl) (by decide) rfl ?_
    refine ev_aload_2 (ev_dt dt_Lw_law_3 56 rfl) ?_
    refine ev_callV (ev_dt dt_Lw_law_3 57 rfl) v_Lw_75_10 hM2.1 [] rfl np_Md_thrown rfl (ev_lk_of (j := 0) rfl rfl) (r_thrown hM2 (ev_r1 ?_))
    refine ev_iload_5 (ev_dt dt_Lw_law_3 58 rfl) ?_
    refine ev_icmp_eqT (tgt := 446) (ev_dt dt_Lw_law_3 59 rfl) (by decide) rfl ?_
    refine ev_iload_5 (ev_dt dt_Lw_law_4 2 rfl) ?_
    refine ev_if_neT (tgt := 463) (ev_dt dt_Lw_law_4 3 rfl) (by decide) (by decide +kernel) ?_
    refine ev_goto (tgt := 1484) (ev_dt dt_Lw_law_4 13 rfl) (by decide) ?_
    refine ev_fg_5 (ev_fg_6 ?_)
    exact kk h2 _ _ _ (LI.mk hP2 hs1 hM2 ho2 hR.thr (by omega)) (by omega) (by omega)
  · have hM1 := hM.cF hf1
    have ho1 := (hf1 (X + 107) (by omega) (by omega)).trans ho
    refine ev_i2l (ev_dt dt_Lw_order_0 8 rfl) rfl ?_
    refine ev_outS (ev_dt dt_Lw_order_0 9 rfl) hP1 hM1 ho1 (fun h3 o3 hP3 hM3 ho3 hov3 => ?_)
    refine ev_goto (tgt := 25) (ev_dt dt_Lw_order_0 10 rfl) (by decide) ?_
    refine ev_ic0 (ev_dt dt_Lw_order_0 17 rfl) ?_
    refine ev_ireturn (ev_dt dt_Lw_order_0 18 rfl) rfl rfl (ev_r1 ?_)
    refine ev_istore_5 (ev_dt dt_Lw_law_3 32 rfl) (by decide) rfl ?_
    refine ev_aload_2 (ev_dt dt_Lw_law_3 33 rfl) ?_
    refine ev_aload_0 (ev_dt dt_Lw_law_3 34 rfl) ?_
    refine ev_iload_4 (ev_dt dt_Lw_law_3 35 rfl) ?_
    refine ev_ic1 (ev_dt dt_Lw_law_3 36 rfl) ?_
    refine ev_addn (ev_dt dt_Lw_law_3 37 rfl) ?_
    refine ev_sld (ev_dt dt_Lw_law_3 38 rfl) hX hb (by omega) (by omega) ?_
    refine ev_aload_0 (ev_dt dt_Lw_law_3 39 rfl) ?_
    refine ev_iload_4 (ev_dt dt_Lw_law_3 40 rfl) ?_
    refine ev_ic2 (ev_dt dt_Lw_law_3 41 rfl) ?_
    refine ev_addn (ev_dt dt_Lw_law_3 42 rfl) ?_
    refine ev_sld (ev_dt dt_Lw_law_3 43 rfl) hX hb (by omega) (by omega) ?_
    refine ev_aload_0 (ev_dt dt_Lw_law_3 44 rfl) ?_
    refine ev_iload_4 (ev_dt dt_Lw_law_3 45 rfl) ?_
    refine ev_ic3 (ev_dt dt_Lw_law_3 46 rfl) ?_
    refine ev_addn (ev_dt dt_Lw_law_3 47 rfl) ?_
    refine ev_sld (ev_dt dt_Lw_law_3 48 rfl) hX hb (by omega) (by omega) ?_
    refine ev_aload_0 (ev_dt dt_Lw_law_3 49 rfl) ?_
    refine ev_iload_4 (ev_dt dt_Lw_law_3 50 rfl) ?_
    refine ev_ic4 (ev_dt dt_Lw_law_3 51 rfl) ?_
    refine ev_addn (ev_dt dt_Lw_law_3 52 rfl) ?_
    refine ev_sld (ev_dt dt_Lw_law_3 53 rfl) hX hb (by omega) (by omega) ?_
    refine ev_callV (ev_dt dt_Lw_law_3 54 rfl) v_Lw_94_10 hM3.1 [.int (xs (5 * t + 1)), .int (xs (5 * t + 2)), .int (xs (5 * t + 3)), .int (xs (5 * t + 4))] rfl np_Md_order rfl (ev_lk_of (j := 1) rfl rfl) (r_order (d := d + 60) hM3 hnc (fun g => False.elim (cx_order g hkd ex hcl ey hn)) (fun kd' cl' hkd' ex' hcl' ey' hn' g => False.elim (hne g)) (fun kd' cl' hkd' ex' hcl' ey' hn' _ A2 hA2 h2 hM2 hf2 => ev_r1 ?_))
    obtain rfl : kd = kd' := nI_inj (by omega) (by omega) ex ex'
    obtain rfl : cl = cl' := nI_inj (by omega) (by omega) ey ey'
    have hP2 := hP3.byRef hf2
    have ho2 := (hf2 (X + 107) (Or.inr (by omega))).trans ho3
    refine ev_istore_6 (ev_dt dt_Lw_law_3 55 rfl) (by decide) rfl ?_
    refine ev_aload_2 (ev_dt dt_Lw_law_3 56 rfl) ?_
    refine ev_callV (ev_dt dt_Lw_law_3 57 rfl) v_Lw_75_10 hM2.1 [] rfl np_Md_thrown rfl (ev_lk_of (j := 0) rfl rfl) (r_thrown hM2 (ev_r1 ?_))
    refine ev_iload_5 (ev_dt dt_Lw_law_3 58 rfl) ?_
    refine ev_icmp_eqT (tgt := 446) (ev_dt dt_Lw_law_3 59 rfl) (by decide) rfl ?_
    refine ev_iload_5 (ev_dt dt_Lw_law_4 2 rfl) ?_
    refine ev_if_neF (tgt := 463) (ev_dt dt_Lw_law_4 3 rfl) (by decide) z00 ?_
    refine ev_aload_3 (ev_dt dt_Lw_law_4 4 rfl) ?_
    refine ev_ic0 (ev_dt dt_Lw_law_4 5 rfl) ?_
    refine ev_lald (ev_dt dt_Lw_law_4 6 rfl) ho2 (by omega) (by decide) hov3 ?_
    refine ev_iload_6 (ev_dt dt_Lw_law_4 7 rfl) ?_
    refine ev_i2l (ev_dt dt_Lw_law_4 8 rfl) rfl ?_
    refine ev_lcmp (ev_dt dt_Lw_law_4 9 rfl) ?_
    refine ev_if_eqT (tgt := 463) (ev_dt dt_Lw_law_4 10 rfl) (by decide) (lgc rfl) ?_
    refine ev_goto (tgt := 1484) (ev_dt dt_Lw_law_4 13 rfl) (by decide) ?_
    refine ev_fg_5 (ev_fg_6 ?_)
    exact kk h2 _ _ _ (LI.mk hP2 hs1 hM2 ho2 (kp_order hR hne hkd hcl hf hA2) (by omega)) (by omega) (by omega)
theorem c_layer {E : ev_E} {X b L t tt d k n sz : Nat} {xs : Nat → Int32} {h : ev_h} {Q : ev_Q} (hE : ev_nok E) (hX : va_X b L xs E.2.2.2.1 E.2.2.2.1.heap) (hb : b < ev_b E) (hL : L ≤ 2560) (ht : 5 * t + 5 ≤ L) (htt : tt ≤ 50000) (hI : LI E X tt h sz) (kk : ∀ h' sz' k' n', LI E X (tt + 1) h' sz' → k ≤ k' → n ≤ n' → Ev E m_Lw_law (d + 62) 1484 [some (.ref b), some (.ref X), some (.ref (X + 78)), some (.ref (X + 107)), some (.int (nI (5 * t))), none, none] [] h' sz' k' n' Q) : Ev E m_Lw_law (d + 62) 466 [some (.ref b), some (.ref X), some (.ref (X + 78)), some (.ref (X + 107)), some (.int (nI (5 * t))), none, none] [] h sz (k + 3) (n + 27) Q := by
  obtain ⟨nc, al, fl, c, mr, cc, ac, nu, on, op, th, af, ff, V, qs, N, ed, zs, cs, ad, F, A, T, π, cn, co, cq, oq, sn, o, hP, hs, hM, ho, hR, hal⟩ := hI
  obtain rfl : F 1 = mr := hR.1.1
  obtain rfl : F 2 = nc := hR.2.1.1
  obtain rfl : F 3 = ac := hR.2.2.2.1.1
  obtain rfl : F 5 = fl := hR.2.2.2.2.1.1
  have hcn : cnt T (F 1) = c := en_total hR.1.2.2.2.2.1
  have hc24 : c ≤ 24 := hR.1.2.2.1
  have hm120 : F 1 ≤ 120 := hR.1.2.1
  have hnc : F 2 ≤ 24 := hR.2.1.2.1
  have hT := hR.1.2.2.2.1
  have hS := hR.2.1.2.2.1
  have hok := hR.2.1.2.2.2.1
  have hZ := hR.2.1.2.2.2.2.1
  have hC := hR.2.2.1.1
  have hcc : cc ≤ 4 := hC.2.2.2.1
  have hon : ∀ i, i < cc → on i = nI (cn i) ∧ cn i < 4 := fun i hi => ⟨(hR.2.2.1.2 i hi).1, (hC.2.2.2.2 i hi).2.1⟩
  have hop : ∀ i, i < cc → op i = nI (co i) ∧ co i < 6 := fun i hi => ⟨(hR.2.2.1.2 i hi).2, (hC.2.2.2.2 i hi).2.2.2.1⟩
  have hps : ∀ i, i < c → ((fun j => okb cn co th (V j) cc) i = true ↔ okC cc cn co th (V i)) := fun i _ => okb_iff cc
  have hqn : ∀ s, s < 4 → (qs s).1 ≤ F 2 := fun s hs => (hR.2.2.2.2.2 s hs).1.2.1
  have hp24 := rw_24 (qc := cc) (a := cn) (b := co) (t := th) hR.1
  have hokT := hR.2.1.okT
  refine ev_aload_1 (ev_dt dt_Lw_law_4 14 rfl) ?_
  refine ev_aload_0 (ev_dt dt_Lw_law_4 15 rfl) ?_
  refine ev_iload_4 (ev_dt dt_Lw_law_4 16 rfl) ?_
  refine ev_ic1 (ev_dt dt_Lw_law_4 17 rfl) ?_
  refine ev_addn (ev_dt dt_Lw_law_4 18 rfl) ?_
  refine ev_sld (ev_dt dt_Lw_law_4 19 rfl) hX hb (by omega) (by omega) ?_
  refine ev_aload_0 (ev_dt dt_Lw_law_4 20 rfl) ?_
  refine ev_iload_4 (ev_dt dt_Lw_law_4 21 rfl) ?_
  refine ev_ic2 (ev_dt dt_Lw_law_4 22 rfl) ?_
  refine ev_addn (ev_dt dt_Lw_law_4 23 rfl) ?_
  refine ev_sld (ev_dt dt_Lw_law_4 24 rfl) hX hb (by omega) (by omega) ?_
  refine ev_aload_0 (ev_dt dt_Lw_law_4 25 rfl) ?_
  refine ev_iload_4 (ev_dt dt_Lw_law_4 26 rfl) ?_
  refine ev_ic3 (ev_dt dt_Lw_law_4 27 rfl) ?_
  refine ev_addn (ev_dt dt_Lw_law_4 28 rfl) ?_
  refine ev_sld (ev_dt dt_Lw_law_4 29 rfl) hX hb (by omega) (by omega) ?_
  refine ev_callV (ev_dt dt_Lw_law_4 30 rfl) v_Lw_95_0 hP.1 [.int (xs (5 * t + 1)), .int (xs (5 * t + 2)), .int (xs (5 * t + 3))] rfl np_PT_layer rfl (ev_lk_of (j := 2) rfl rfl) (t_PT_layer (d := d + 1) hE hnc hs hP (fun hx => ev_r1 ?_) (fun i v hi ex hv ey l1 l2 hk h1 hP1 hf1 => ev_r1 ?_))
  · refine ev_aload_2 (ev_dt dt_Lw_law_4 31 rfl) ?_
    refine ev_aload_0 (ev_dt dt_Lw_law_4 32 rfl) ?_
    refine ev_iload_4 (ev_dt dt_Lw_law_4 33 rfl) ?_
    refine ev_ic1 (ev_dt dt_Lw_law_4 34 rfl) ?_
    refine ev_addn (ev_dt dt_Lw_law_4 35 rfl) ?_
    refine ev_sld (ev_dt dt_Lw_law_4 36 rfl) hX hb (by omega) (by omega) ?_
    refine ev_aload_0 (ev_dt dt_Lw_law_4 37 rfl) ?_
    refine ev_iload_4 (ev_dt dt_Lw_law_4 38 rfl) ?_
    refine ev_ic2 (ev_dt dt_Lw_law_4 39 rfl) ?_
    refine ev_addn (ev_dt dt_Lw_law_4 40 rfl) ?_
    refine ev_sld (ev_dt dt_Lw_law_4 41 rfl) hX hb (by omega) (by omega) ?_
    refine ev_aload_0 (ev_dt dt_Lw_law_4 42 rfl) ?_
    refine ev_iload_4 (ev_dt dt_Lw_law_4 43 rfl) ?_
    refine ev_ic3 (ev_dt dt_Lw_law_4 44 rfl) ?_
    refine ev_addn (ev_dt dt_Lw_law_4 45 rfl) ?_
    refine ev_sld (ev_dt dt_Lw_law_4 46 rfl) hX hb (by omega) (by omega) ?_
    refine ev_callV (ev_dt dt_Lw_law_4 47 rfl) v_Lw_98_10 hM.1 [.int (xs (5 * t + 1)), .int (xs (5 * t + 2)), .int (xs (5 * t + 3))] rfl np_Md_layer rfl (ev_lk_of (j := 0) rfl rfl) (r_layer (d := d + 60) hM hS.1 rfl hnc (fun _ h2 hM2 hf2 => ev_r1 ?_) (fun i' v' hi' ex' hv' ey' l1' l2' hk' => False.elim (cx_layer hnc hx hi' ex' hv' ey' l1' l2' hk')))
    have hP2 := hP.byRef hf2
    have ho2 := (hf2 (X + 107) (Or.inr (by omega))).trans ho
    refine ev_icmp_eqT (tgt := 1484) (ev_dt dt_Lw_law_4 48 rfl) (by decide) rfl ?_
    refine ev_fg_5 (ev_fg_6 ?_)
    exact kk h2 _ _ _ (LI.mk hP2 hs hM2 ho2 hR.thr (by omega)) (by omega) (by omega)
  · have hM1 := hM.cF hf1
    have ho1 := (hf1 (X + 107) (by omega) (by omega)).trans ho
    refine ev_aload_2 (ev_dt dt_Lw_law_4 31 rfl) ?_
    refine ev_aload_0 (ev_dt dt_Lw_law_4 32 rfl) ?_
    refine ev_iload_4 (ev_dt dt_Lw_law_4 33 rfl) ?_
    refine ev_ic1 (ev_dt dt_Lw_law_4 34 rfl) ?_
    refine ev_addn (ev_dt dt_Lw_law_4 35 rfl) ?_
    refine ev_sld (ev_dt dt_Lw_law_4 36 rfl) hX hb (by omega) (by omega) ?_
    refine ev_aload_0 (ev_dt dt_Lw_law_4 37 rfl) ?_
    refine ev_iload_4 (ev_dt dt_Lw_law_4 38 rfl) ?_
    refine ev_ic2 (ev_dt dt_Lw_law_4 39 rfl) ?_
    refine ev_addn (ev_dt dt_Lw_law_4 40 rfl) ?_
    refine ev_sld (ev_dt dt_Lw_law_4 41 rfl) hX hb (by omega) (by omega) ?_
    refine ev_aload_0 (ev_dt dt_Lw_law_4 42 rfl) ?_
    refine ev_iload_4 (ev_dt dt_Lw_law_4 43 rfl) ?_
    refine ev_ic3 (ev_dt dt_Lw_law_4 44 rfl) ?_
    refine ev_addn (ev_dt dt_Lw_law_4 45 rfl) ?_
    refine ev_sld (ev_dt dt_Lw_law_4 46 rfl) hX hb (by omega) (by omega) ?_
    refine ev_callV (ev_dt dt_Lw_law_4 47 rfl) v_Lw_98_10 hM1.1 [.int (xs (5 * t + 1)), .int (xs (5 * t + 2)), .int (xs (5 * t + 3))] rfl np_Md_layer rfl (ev_lk_of (j := 0) rfl rfl) (r_layer (d := d + 60) hM1 hS.1 rfl hnc (fun g => False.elim (cx_layer hnc g hi ex hv ey l1 l2 hk)) (fun i' v' hi' ex' hv' ey' l1' l2' hk' h2 hM2 hf2 => ev_r1 ?_))
    obtain rfl : i = i' := nI_inj (by omega) (by omega) ex ex'
    obtain rfl : v = v' := nI_inj (by omega) (by omega) ey ey'
    have hP2 := hP1.byRef hf2
    have ho2 := (hf2 (X + 107) (Or.inr (by omega))).trans ho1
    refine ev_icmp_eqT (tgt := 1484) (ev_dt dt_Lw_law_4 48 rfl) (by decide) rfl ?_
    refine ev_fg_5 (ev_fg_6 ?_)
    exact kk h2 _ _ _ (LI.mk hP2 hs hM2 ho2 (kp_layer hR hi hv hk l1 l2) (by omega)) (by omega) (by omega)
theorem c_edge {E : ev_E} {X b L t tt d k n sz : Nat} {xs : Nat → Int32} {h : ev_h} {Q : ev_Q} (hE : ev_nok E) (hX : va_X b L xs E.2.2.2.1 E.2.2.2.1.heap) (hb : b < ev_b E) (hL : L ≤ 2560) (ht : 5 * t + 5 ≤ L) (htt : tt ≤ 50000) (hI : LI E X tt h sz) (kk : ∀ h' sz' k' n', LI E X (tt + 1) h' sz' → k ≤ k' → n ≤ n' → Ev E m_Lw_law (d + 62) 1484 [some (.ref b), some (.ref X), some (.ref (X + 78)), some (.ref (X + 107)), some (.int (nI (5 * t))), none, none] [] h' sz' k' n' Q) : Ev E m_Lw_law (d + 62) 515 [some (.ref b), some (.ref X), some (.ref (X + 78)), some (.ref (X + 107)), some (.int (nI (5 * t))), none, none] [] h sz (k + 3) (n + 27) Q := by
  obtain ⟨nc, al, fl, c, mr, cc, ac, nu, on, op, th, af, ff, V, qs, N, ed, zs, cs, ad, F, A, T, π, cn, co, cq, oq, sn, o, hP, hs, hM, ho, hR, hal⟩ := hI
  obtain rfl : F 1 = mr := hR.1.1
  obtain rfl : F 2 = nc := hR.2.1.1
  obtain rfl : F 3 = ac := hR.2.2.2.1.1
  obtain rfl : F 5 = fl := hR.2.2.2.2.1.1
  have hcn : cnt T (F 1) = c := en_total hR.1.2.2.2.2.1
  have hc24 : c ≤ 24 := hR.1.2.2.1
  have hm120 : F 1 ≤ 120 := hR.1.2.1
  have hnc : F 2 ≤ 24 := hR.2.1.2.1
  have hT := hR.1.2.2.2.1
  have hS := hR.2.1.2.2.1
  have hok := hR.2.1.2.2.2.1
  have hZ := hR.2.1.2.2.2.2.1
  have hC := hR.2.2.1.1
  have hcc : cc ≤ 4 := hC.2.2.2.1
  have hon : ∀ i, i < cc → on i = nI (cn i) ∧ cn i < 4 := fun i hi => ⟨(hR.2.2.1.2 i hi).1, (hC.2.2.2.2 i hi).2.1⟩
  have hop : ∀ i, i < cc → op i = nI (co i) ∧ co i < 6 := fun i hi => ⟨(hR.2.2.1.2 i hi).2, (hC.2.2.2.2 i hi).2.2.2.1⟩
  have hps : ∀ i, i < c → ((fun j => okb cn co th (V j) cc) i = true ↔ okC cc cn co th (V i)) := fun i _ => okb_iff cc
  have hqn : ∀ s, s < 4 → (qs s).1 ≤ F 2 := fun s hs => (hR.2.2.2.2.2 s hs).1.2.1
  have hp24 := rw_24 (qc := cc) (a := cn) (b := co) (t := th) hR.1
  have hokT := hR.2.1.okT
  refine ev_aload_1 (ev_dt dt_Lw_law_4 51 rfl) ?_
  refine ev_aload_0 (ev_dt dt_Lw_law_4 52 rfl) ?_
  refine ev_iload_4 (ev_dt dt_Lw_law_4 53 rfl) ?_
  refine ev_ic1 (ev_dt dt_Lw_law_4 54 rfl) ?_
  refine ev_addn (ev_dt dt_Lw_law_4 55 rfl) ?_
  refine ev_sld (ev_dt dt_Lw_law_4 56 rfl) hX hb (by omega) (by omega) ?_
  refine ev_aload_0 (ev_dt dt_Lw_law_4 57 rfl) ?_
  refine ev_iload_4 (ev_dt dt_Lw_law_4 58 rfl) ?_
  refine ev_ic2 (ev_dt dt_Lw_law_4 59 rfl) ?_
  refine ev_addn (ev_dt dt_Lw_law_5 0 rfl) ?_
  refine ev_sld (ev_dt dt_Lw_law_5 1 rfl) hX hb (by omega) (by omega) ?_
  refine ev_aload_0 (ev_dt dt_Lw_law_5 2 rfl) ?_
  refine ev_iload_4 (ev_dt dt_Lw_law_5 3 rfl) ?_
  refine ev_ic3 (ev_dt dt_Lw_law_5 4 rfl) ?_
  refine ev_addn (ev_dt dt_Lw_law_5 5 rfl) ?_
  refine ev_sld (ev_dt dt_Lw_law_5 6 rfl) hX hb (by omega) (by omega) ?_
  refine ev_aload_3 (ev_dt dt_Lw_law_5 7 rfl) ?_
  refine ev_callS (ev_dt dt_Lw_law_5 8 rfl) s_Lw_99 [.ref X, .int (xs (5 * t + 1)), .int (xs (5 * t + 2)), .int (xs (5 * t + 3)), .ref (X + 107)] rfl np_Lw_edge rfl (ev_lk_of (j := 1) rfl rfl) ?_
  refine ev_aload_4 (ev_dt dt_Lw_edge_0 0 rfl) ?_
  refine ev_ic0 (ev_dt dt_Lw_edge_0 1 rfl) ?_
  refine ev_aload_0 (ev_dt dt_Lw_edge_0 2 rfl) ?_
  refine ev_iload_1 (ev_dt dt_Lw_edge_0 3 rfl) ?_
  refine ev_iload_2 (ev_dt dt_Lw_edge_0 4 rfl) ?_
  refine ev_iload_3 (ev_dt dt_Lw_edge_0 5 rfl) ?_
  refine ev_callV (ev_dt dt_Lw_edge_0 6 rfl) v_Lw_26_0 hP.1 [.int (xs (5 * t + 1)), .int (xs (5 * t + 2)), .int (xs (5 * t + 3))] rfl np_PT_edge rfl (ev_lk_of (j := 2) rfl rfl) (t_PT_edge (d := d) hE hnc hs hP (fun hx h1 hP1 hs1 hf1 he1 => ev_rt ?_) (fun i b' w hi ex hb' ey hw ez hk hcy h1 hP1 hs1 hf1 he1 => ev_rt ?_) (fun i b' w hi ex hb' ey hw ez hk g1 g2 g3 => ev_r1 ?_) (fun i b' w hi ex hb' ey hw ez hk g1 g2 g3 h1 r' hr' hP1 hf1 => ev_r1 ?_))
  · have hM1 := hM.cF hf1
    have ho1 := (hf1 (X + 107) (by omega) (by omega)).trans ho
    refine ev_catch1 rfl rfl (by decide) wl_24 rfl wc_12 he1 ?_
    refine ev_astore_5 (ev_dt dt_Lw_edge_0 13 rfl) (by decide) rfl ?_
    refine ev_ic1 (ev_dt dt_Lw_edge_0 14 rfl) ?_
    refine ev_ireturn (ev_dt dt_Lw_edge_0 15 rfl) rfl rfl (ev_r1 ?_)
    refine ev_istore_5 (ev_dt dt_Lw_law_5 9 rfl) (by decide) rfl ?_
    refine ev_aload_2 (ev_dt dt_Lw_law_5 10 rfl) ?_
    refine ev_aload_0 (ev_dt dt_Lw_law_5 11 rfl) ?_
    refine ev_iload_4 (ev_dt dt_Lw_law_5 12 rfl) ?_
    refine ev_ic1 (ev_dt dt_Lw_law_5 13 rfl) ?_
    refine ev_addn (ev_dt dt_Lw_law_5 14 rfl) ?_
    refine ev_sld (ev_dt dt_Lw_law_5 15 rfl) hX hb (by omega) (by omega) ?_
    refine ev_aload_0 (ev_dt dt_Lw_law_5 16 rfl) ?_
    refine ev_iload_4 (ev_dt dt_Lw_law_5 17 rfl) ?_
    refine ev_ic2 (ev_dt dt_Lw_law_5 18 rfl) ?_
    refine ev_addn (ev_dt dt_Lw_law_5 19 rfl) ?_
    refine ev_sld (ev_dt dt_Lw_law_5 20 rfl) hX hb (by omega) (by omega) ?_
    refine ev_aload_0 (ev_dt dt_Lw_law_5 21 rfl) ?_
    refine ev_iload_4 (ev_dt dt_Lw_law_5 22 rfl) ?_
    refine ev_ic3 (ev_dt dt_Lw_law_5 23 rfl) ?_
    refine ev_addn (ev_dt dt_Lw_law_5 24 rfl) ?_
    refine ev_sld (ev_dt dt_Lw_law_5 25 rfl) hX hb (by omega) (by omega) ?_
    refine ev_callV (ev_dt dt_Lw_law_5 26 rfl) v_Lw_102_10 hM1.1 [.int (xs (5 * t + 1)), .int (xs (5 * t + 2)), .int (xs (5 * t + 3))] rfl np_Md_edge rfl (ev_lk_of (j := 0) rfl rfl) (r_edge (d := d + 60) hM1 hS.1 rfl hnc (fun _ h2 hM2 hf2 => ev_r1 ?_) (fun i2 b2 w2 hi2 ex2 hb2 ey2 hw2 ez2 hk2 _ => False.elim (cx_edge hnc hx hi2 ex2 hb2 ey2 hw2 ez2 hk2)) (fun i2 b2 w2 hi2 ex2 hb2 ey2 hw2 ez2 hk2 _ _ => False.elim (cx_edge hnc hx hi2 ex2 hb2 ey2 hw2 ez2 hk2)) (fun i2 b2 w2 hi2 ex2 hb2 ey2 hw2 ez2 hk2 _ _ _ => False.elim (cx_edge hnc hx hi2 ex2 hb2 ey2 hw2 ez2 hk2)))
    have hP2 := hP1.byRef hf2
    have ho2 := (hf2 (X + 107) (Or.inr (by omega))).trans ho1
    refine ev_istore_6 (ev_dt dt_Lw_law_5 27 rfl) (by decide) rfl ?_
    refine ev_aload_2 (ev_dt dt_Lw_law_5 28 rfl) ?_
    refine ev_callV (ev_dt dt_Lw_law_5 29 rfl) v_Lw_75_10 hM2.1 [] rfl np_Md_thrown rfl (ev_lk_of (j := 0) rfl rfl) (r_thrown hM2 (ev_r1 ?_))
    refine ev_iload_5 (ev_dt dt_Lw_law_5 30 rfl) ?_
    refine ev_icmp_eqT (tgt := 575) (ev_dt dt_Lw_law_5 31 rfl) (by decide) rfl ?_
    refine ev_iload_5 (ev_dt dt_Lw_law_5 34 rfl) ?_
    refine ev_if_neT (tgt := 599) (ev_dt dt_Lw_law_5 35 rfl) (by decide) (by decide +kernel) ?_
    refine ev_goto (tgt := 1484) (ev_dt dt_Lw_law_5 48 rfl) (by decide) ?_
    refine ev_fg_5 (ev_fg_6 ?_)
    exact kk h2 _ _ _ (LI.mk hP2 hs1 hM2 ho2 hR.thr (by omega)) (by omega) (by omega)
  · have hM1 := hM.cF hf1
    have ho1 := (hf1 (X + 107) (by omega) (by omega)).trans ho
    refine ev_catch2n rfl rfl rfl (by decide) (by decide) wl_24 wl_13 rfl hE (by decide +kernel) wc_11 he1 ?_
    refine ev_astore_5 (ev_dt dt_Lw_edge_0 16 rfl) (by decide) rfl ?_
    refine ev_ic2 (ev_dt dt_Lw_edge_0 17 rfl) ?_
    refine ev_ireturn (ev_dt dt_Lw_edge_0 18 rfl) rfl rfl (ev_r1 ?_)
    refine ev_istore_5 (ev_dt dt_Lw_law_5 9 rfl) (by decide) rfl ?_
    refine ev_aload_2 (ev_dt dt_Lw_law_5 10 rfl) ?_
    refine ev_aload_0 (ev_dt dt_Lw_law_5 11 rfl) ?_
    refine ev_iload_4 (ev_dt dt_Lw_law_5 12 rfl) ?_
    refine ev_ic1 (ev_dt dt_Lw_law_5 13 rfl) ?_
    refine ev_addn (ev_dt dt_Lw_law_5 14 rfl) ?_
    refine ev_sld (ev_dt dt_Lw_law_5 15 rfl) hX hb (by omega) (by omega) ?_
    refine ev_aload_0 (ev_dt dt_Lw_law_5 16 rfl) ?_
    refine ev_iload_4 (ev_dt dt_Lw_law_5 17 rfl) ?_
    refine ev_ic2 (ev_dt dt_Lw_law_5 18 rfl) ?_
    refine ev_addn (ev_dt dt_Lw_law_5 19 rfl) ?_
    refine ev_sld (ev_dt dt_Lw_law_5 20 rfl) hX hb (by omega) (by omega) ?_
    refine ev_aload_0 (ev_dt dt_Lw_law_5 21 rfl) ?_
    refine ev_iload_4 (ev_dt dt_Lw_law_5 22 rfl) ?_
    refine ev_ic3 (ev_dt dt_Lw_law_5 23 rfl) ?_
    refine ev_addn (ev_dt dt_Lw_law_5 24 rfl) ?_
    refine ev_sld (ev_dt dt_Lw_law_5 25 rfl) hX hb (by omega) (by omega) ?_
    refine ev_callV (ev_dt dt_Lw_law_5 26 rfl) v_Lw_102_10 hM1.1 [.int (xs (5 * t + 1)), .int (xs (5 * t + 2)), .int (xs (5 * t + 3))] rfl np_Md_edge rfl (ev_lk_of (j := 0) rfl rfl) (r_edge (d := d + 60) hM1 hS.1 rfl hnc (fun g => False.elim (cx_edge hnc g hi ex hb' ey hw ez hk)) (fun i2 b2 w2 hi2 ex2 hb2 ey2 hw2 ez2 hk2 g => False.elim (by obtain rfl : i = i2 := nI_inj (by omega) (by omega) ex ex2; obtain rfl : b' = b2 := nI_inj (by omega) (by omega) ey ey2; obtain rfl : w = w2 := nI_inj (by omega) (by omega) ez ez2; exact edge_no (hS.2.1 i hi hk) hb' hw hcy g)) (fun i2 b2 w2 hi2 ex2 hb2 ey2 hw2 ez2 hk2 _ _ h2 hM2 hf2 => ev_r1 ?_) (fun i2 b2 w2 hi2 ex2 hb2 ey2 hw2 ez2 hk2 _ g1 g2 => False.elim (by obtain rfl : i = i2 := nI_inj (by omega) (by omega) ex ex2; obtain rfl : b' = b2 := nI_inj (by omega) (by omega) ey ey2; obtain rfl : w = w2 := nI_inj (by omega) (by omega) ez ez2; rw [rnE hS hi hk hw hb'] at g2; exact hcy.elim g1 (fun q => by rw [q] at g2; cases g2))))
    have hP2 := hP1.byRef hf2
    have ho2 := (hf2 (X + 107) (Or.inr (by omega))).trans ho1
    refine ev_istore_6 (ev_dt dt_Lw_law_5 27 rfl) (by decide) rfl ?_
    refine ev_aload_2 (ev_dt dt_Lw_law_5 28 rfl) ?_
    refine ev_callV (ev_dt dt_Lw_law_5 29 rfl) v_Lw_75_10 hM2.1 [] rfl np_Md_thrown rfl (ev_lk_of (j := 0) rfl rfl) (r_thrown hM2 (ev_r1 ?_))
    refine ev_iload_5 (ev_dt dt_Lw_law_5 30 rfl) ?_
    refine ev_icmp_eqT (tgt := 575) (ev_dt dt_Lw_law_5 31 rfl) (by decide) rfl ?_
    refine ev_iload_5 (ev_dt dt_Lw_law_5 34 rfl) ?_
    refine ev_if_neT (tgt := 599) (ev_dt dt_Lw_law_5 35 rfl) (by decide) (by decide +kernel) ?_
    refine ev_goto (tgt := 1484) (ev_dt dt_Lw_law_5 48 rfl) (by decide) ?_
    refine ev_fg_5 (ev_fg_6 ?_)
    exact kk h2 _ _ _ (LI.mk hP2 hs1 hM2 ho2 hR.thr (by omega)) (by omega) (by omega)
  · refine ev_if_eqT (tgt := 17) (ev_dt dt_Lw_edge_0 7 rfl) (by decide) z00 ?_
    refine ev_lconst (ev_dt dt_Lw_edge_0 10 rfl) rfl ?_
    refine ev_outS (ev_dt dt_Lw_edge_0 11 rfl) hP hM ho (fun h3 o3 hP3 hM3 ho3 hov3 => ?_)
    refine ev_goto (tgt := 30) (ev_dt dt_Lw_edge_0 12 rfl) (by decide) ?_
    refine ev_ic0 (ev_dt dt_Lw_edge_0 19 rfl) ?_
    refine ev_ireturn (ev_dt dt_Lw_edge_0 20 rfl) rfl rfl (ev_r1 ?_)
    refine ev_istore_5 (ev_dt dt_Lw_law_5 9 rfl) (by decide) rfl ?_
    refine ev_aload_2 (ev_dt dt_Lw_law_5 10 rfl) ?_
    refine ev_aload_0 (ev_dt dt_Lw_law_5 11 rfl) ?_
    refine ev_iload_4 (ev_dt dt_Lw_law_5 12 rfl) ?_
    refine ev_ic1 (ev_dt dt_Lw_law_5 13 rfl) ?_
    refine ev_addn (ev_dt dt_Lw_law_5 14 rfl) ?_
    refine ev_sld (ev_dt dt_Lw_law_5 15 rfl) hX hb (by omega) (by omega) ?_
    refine ev_aload_0 (ev_dt dt_Lw_law_5 16 rfl) ?_
    refine ev_iload_4 (ev_dt dt_Lw_law_5 17 rfl) ?_
    refine ev_ic2 (ev_dt dt_Lw_law_5 18 rfl) ?_
    refine ev_addn (ev_dt dt_Lw_law_5 19 rfl) ?_
    refine ev_sld (ev_dt dt_Lw_law_5 20 rfl) hX hb (by omega) (by omega) ?_
    refine ev_aload_0 (ev_dt dt_Lw_law_5 21 rfl) ?_
    refine ev_iload_4 (ev_dt dt_Lw_law_5 22 rfl) ?_
    refine ev_ic3 (ev_dt dt_Lw_law_5 23 rfl) ?_
    refine ev_addn (ev_dt dt_Lw_law_5 24 rfl) ?_
    refine ev_sld (ev_dt dt_Lw_law_5 25 rfl) hX hb (by omega) (by omega) ?_
    refine ev_callV (ev_dt dt_Lw_law_5 26 rfl) v_Lw_102_10 hM3.1 [.int (xs (5 * t + 1)), .int (xs (5 * t + 2)), .int (xs (5 * t + 3))] rfl np_Md_edge rfl (ev_lk_of (j := 0) rfl rfl) (r_edge (d := d + 60) hM3 hS.1 rfl hnc (fun g => False.elim (cx_edge hnc g hi ex hb' ey hw ez hk)) (fun i2 b2 w2 hi2 ex2 hb2 ey2 hw2 ez2 hk2 _ h2 hM2 hf2 => ev_r1 ?_) (fun i2 b2 w2 hi2 ex2 hb2 ey2 hw2 ez2 hk2 g => False.elim (by obtain rfl : i = i2 := nI_inj (by omega) (by omega) ex ex2; obtain rfl : b' = b2 := nI_inj (by omega) (by omega) ey ey2; obtain rfl : w = w2 := nI_inj (by omega) (by omega) ez ez2; rw [g3] at g; cases g)) (fun i2 b2 w2 hi2 ex2 hb2 ey2 hw2 ez2 hk2 g => False.elim (by obtain rfl : i = i2 := nI_inj (by omega) (by omega) ex ex2; obtain rfl : b' = b2 := nI_inj (by omega) (by omega) ey ey2; obtain rfl : w = w2 := nI_inj (by omega) (by omega) ez ez2; rw [g3] at g; cases g)))
    have hP2 := hP3.byRef hf2
    have ho2 := (hf2 (X + 107) (Or.inr (by omega))).trans ho3
    refine ev_istore_6 (ev_dt dt_Lw_law_5 27 rfl) (by decide) rfl ?_
    refine ev_aload_2 (ev_dt dt_Lw_law_5 28 rfl) ?_
    refine ev_callV (ev_dt dt_Lw_law_5 29 rfl) v_Lw_75_10 hM2.1 [] rfl np_Md_thrown rfl (ev_lk_of (j := 0) rfl rfl) (r_thrown hM2 (ev_r1 ?_))
    refine ev_iload_5 (ev_dt dt_Lw_law_5 30 rfl) ?_
    refine ev_icmp_eqT (tgt := 575) (ev_dt dt_Lw_law_5 31 rfl) (by decide) rfl ?_
    refine ev_iload_5 (ev_dt dt_Lw_law_5 34 rfl) ?_
    refine ev_if_neF (tgt := 599) (ev_dt dt_Lw_law_5 35 rfl) (by decide) z00 ?_
    refine ev_aload_3 (ev_dt dt_Lw_law_5 36 rfl) ?_
    refine ev_ic0 (ev_dt dt_Lw_law_5 37 rfl) ?_
    refine ev_lald (ev_dt dt_Lw_law_5 38 rfl) ho2 (by omega) (by decide) hov3 ?_
    refine ev_iload_6 (ev_dt dt_Lw_law_5 39 rfl) ?_
    refine ev_if_eqT (tgt := 592) (ev_dt dt_Lw_law_5 40 rfl) (by decide) z00 ?_
    refine ev_lconst (ev_dt dt_Lw_law_5 43 rfl) rfl ?_
    refine ev_lcmp (ev_dt dt_Lw_law_5 44 rfl) ?_
    refine ev_if_eqT (tgt := 599) (ev_dt dt_Lw_law_5 45 rfl) (by decide) lgc0 ?_
    refine ev_goto (tgt := 1484) (ev_dt dt_Lw_law_5 48 rfl) (by decide) ?_
    refine ev_fg_5 (ev_fg_6 ?_)
    exact kk h2 _ _ _ (LI.mk hP2 hs hM2 ho2 hR.thr (by omega)) (by omega) (by omega)
  · have hM1 := hM.cF hf1
    have ho1 := (hf1 (X + 107) (by omega) (by omega)).trans ho
    refine ev_if_eqF (tgt := 17) (ev_dt dt_Lw_edge_0 7 rfl) (by decide) z10 ?_
    refine ev_lconst (ev_dt dt_Lw_edge_0 8 rfl) rfl ?_
    refine ev_goto (tgt := 18) (ev_dt dt_Lw_edge_0 9 rfl) (by decide) ?_
    refine ev_outS (ev_dt dt_Lw_edge_0 11 rfl) hP1 hM1 ho1 (fun h3 o3 hP3 hM3 ho3 hov3 => ?_)
    refine ev_goto (tgt := 30) (ev_dt dt_Lw_edge_0 12 rfl) (by decide) ?_
    refine ev_ic0 (ev_dt dt_Lw_edge_0 19 rfl) ?_
    refine ev_ireturn (ev_dt dt_Lw_edge_0 20 rfl) rfl rfl (ev_r1 ?_)
    refine ev_istore_5 (ev_dt dt_Lw_law_5 9 rfl) (by decide) rfl ?_
    refine ev_aload_2 (ev_dt dt_Lw_law_5 10 rfl) ?_
    refine ev_aload_0 (ev_dt dt_Lw_law_5 11 rfl) ?_
    refine ev_iload_4 (ev_dt dt_Lw_law_5 12 rfl) ?_
    refine ev_ic1 (ev_dt dt_Lw_law_5 13 rfl) ?_
    refine ev_addn (ev_dt dt_Lw_law_5 14 rfl) ?_
    refine ev_sld (ev_dt dt_Lw_law_5 15 rfl) hX hb (by omega) (by omega) ?_
    refine ev_aload_0 (ev_dt dt_Lw_law_5 16 rfl) ?_
    refine ev_iload_4 (ev_dt dt_Lw_law_5 17 rfl) ?_
    refine ev_ic2 (ev_dt dt_Lw_law_5 18 rfl) ?_
    refine ev_addn (ev_dt dt_Lw_law_5 19 rfl) ?_
    refine ev_sld (ev_dt dt_Lw_law_5 20 rfl) hX hb (by omega) (by omega) ?_
    refine ev_aload_0 (ev_dt dt_Lw_law_5 21 rfl) ?_
    refine ev_iload_4 (ev_dt dt_Lw_law_5 22 rfl) ?_
    refine ev_ic3 (ev_dt dt_Lw_law_5 23 rfl) ?_
    refine ev_addn (ev_dt dt_Lw_law_5 24 rfl) ?_
    refine ev_sld (ev_dt dt_Lw_law_5 25 rfl) hX hb (by omega) (by omega) ?_
    refine ev_callV (ev_dt dt_Lw_law_5 26 rfl) v_Lw_102_10 hM3.1 [.int (xs (5 * t + 1)), .int (xs (5 * t + 2)), .int (xs (5 * t + 3))] rfl np_Md_edge rfl (ev_lk_of (j := 0) rfl rfl) (r_edge (d := d + 60) hM3 hS.1 rfl hnc (fun g => False.elim (cx_edge hnc g hi ex hb' ey hw ez hk)) (fun i2 b2 w2 hi2 ex2 hb2 ey2 hw2 ez2 hk2 g => False.elim (by obtain rfl : i = i2 := nI_inj (by omega) (by omega) ex ex2; obtain rfl : b' = b2 := nI_inj (by omega) (by omega) ey ey2; obtain rfl : w = w2 := nI_inj (by omega) (by omega) ez ez2; rw [g3] at g; cases g)) (fun i2 b2 w2 hi2 ex2 hb2 ey2 hw2 ez2 hk2 _ g => False.elim (by obtain rfl : i = i2 := nI_inj (by omega) (by omega) ex ex2; obtain rfl : b' = b2 := nI_inj (by omega) (by omega) ey ey2; obtain rfl : w = w2 := nI_inj (by omega) (by omega) ez ez2; rw [rnE hS hi hk hw hb', g2] at g; exact g.elim g1 (fun q => by cases q))) (fun i2 b2 w2 hi2 ex2 hb2 ey2 hw2 ez2 hk2 _ _ _ h2 hM2 hf2 => ev_r1 ?_))
    obtain rfl : i = i2 := nI_inj (by omega) (by omega) ex ex2
    obtain rfl : b' = b2 := nI_inj (by omega) (by omega) ey ey2
    obtain rfl : w = w2 := nI_inj (by omega) (by omega) ez ez2
    have hP2 := hP3.byRef hf2
    have ho2 := (hf2 (X + 107) (Or.inr (by omega))).trans ho3
    refine ev_istore_6 (ev_dt dt_Lw_law_5 27 rfl) (by decide) rfl ?_
    refine ev_aload_2 (ev_dt dt_Lw_law_5 28 rfl) ?_
    refine ev_callV (ev_dt dt_Lw_law_5 29 rfl) v_Lw_75_10 hM2.1 [] rfl np_Md_thrown rfl (ev_lk_of (j := 0) rfl rfl) (r_thrown hM2 (ev_r1 ?_))
    refine ev_iload_5 (ev_dt dt_Lw_law_5 30 rfl) ?_
    refine ev_icmp_eqT (tgt := 575) (ev_dt dt_Lw_law_5 31 rfl) (by decide) rfl ?_
    refine ev_iload_5 (ev_dt dt_Lw_law_5 34 rfl) ?_
    refine ev_if_neF (tgt := 599) (ev_dt dt_Lw_law_5 35 rfl) (by decide) z00 ?_
    refine ev_aload_3 (ev_dt dt_Lw_law_5 36 rfl) ?_
    refine ev_ic0 (ev_dt dt_Lw_law_5 37 rfl) ?_
    refine ev_lald (ev_dt dt_Lw_law_5 38 rfl) ho2 (by omega) (by decide) hov3 ?_
    refine ev_iload_6 (ev_dt dt_Lw_law_5 39 rfl) ?_
    refine ev_if_eqF (tgt := 592) (ev_dt dt_Lw_law_5 40 rfl) (by decide) z10 ?_
    refine ev_lconst (ev_dt dt_Lw_law_5 41 rfl) rfl ?_
    refine ev_goto (tgt := 593) (ev_dt dt_Lw_law_5 42 rfl) (by decide) ?_
    refine ev_lcmp (ev_dt dt_Lw_law_5 44 rfl) ?_
    refine ev_if_eqT (tgt := 599) (ev_dt dt_Lw_law_5 45 rfl) (by decide) lgc1 ?_
    refine ev_goto (tgt := 1484) (ev_dt dt_Lw_law_5 48 rfl) (by decide) ?_
    refine ev_fg_5 (ev_fg_6 ?_)
    exact kk h2 _ _ _ (LI.mk hP2 hs hM2 ho2 (kp_edge hR hi hb' hw hk g1 g2 hr') (by omega)) (by omega) (by omega)
theorem c_term {E : ev_E} {X b L t tt d k n sz : Nat} {xs : Nat → Int32} {h : ev_h} {Q : ev_Q} (hE : ev_nok E) (hX : va_X b L xs E.2.2.2.1 E.2.2.2.1.heap) (hb : b < ev_b E) (hL : L ≤ 2560) (ht : 5 * t + 5 ≤ L) (htt : tt ≤ 50000) (hI : LI E X tt h sz) (kk : ∀ h' sz' k' n', LI E X (tt + 1) h' sz' → k ≤ k' → n ≤ n' → Ev E m_Lw_law (d + 62) 1484 [some (.ref b), some (.ref X), some (.ref (X + 78)), some (.ref (X + 107)), some (.int (nI (5 * t))), none, none] [] h' sz' k' n' Q) : Ev E m_Lw_law (d + 62) 602 [some (.ref b), some (.ref X), some (.ref (X + 78)), some (.ref (X + 107)), some (.int (nI (5 * t))), none, none] [] h sz (k + 3) (n + 27) Q := by
  obtain ⟨nc, al, fl, c, mr, cc, ac, nu, on, op, th, af, ff, V, qs, N, ed, zs, cs, ad, F, A, T, π, cn, co, cq, oq, sn, o, hP, hs, hM, ho, hR, hal⟩ := hI
  obtain rfl : F 1 = mr := hR.1.1
  obtain rfl : F 2 = nc := hR.2.1.1
  obtain rfl : F 3 = ac := hR.2.2.2.1.1
  obtain rfl : F 5 = fl := hR.2.2.2.2.1.1
  have hcn : cnt T (F 1) = c := en_total hR.1.2.2.2.2.1
  have hc24 : c ≤ 24 := hR.1.2.2.1
  have hm120 : F 1 ≤ 120 := hR.1.2.1
  have hnc : F 2 ≤ 24 := hR.2.1.2.1
  have hT := hR.1.2.2.2.1
  have hS := hR.2.1.2.2.1
  have hok := hR.2.1.2.2.2.1
  have hZ := hR.2.1.2.2.2.2.1
  have hC := hR.2.2.1.1
  have hcc : cc ≤ 4 := hC.2.2.2.1
  have hon : ∀ i, i < cc → on i = nI (cn i) ∧ cn i < 4 := fun i hi => ⟨(hR.2.2.1.2 i hi).1, (hC.2.2.2.2 i hi).2.1⟩
  have hop : ∀ i, i < cc → op i = nI (co i) ∧ co i < 6 := fun i hi => ⟨(hR.2.2.1.2 i hi).2, (hC.2.2.2.2 i hi).2.2.2.1⟩
  have hps : ∀ i, i < c → ((fun j => okb cn co th (V j) cc) i = true ↔ okC cc cn co th (V i)) := fun i _ => okb_iff cc
  have hqn : ∀ s, s < 4 → (qs s).1 ≤ F 2 := fun s hs => (hR.2.2.2.2.2 s hs).1.2.1
  have hp24 := rw_24 (qc := cc) (a := cn) (b := co) (t := th) hR.1
  have hokT := hR.2.1.okT
  refine ev_aload_1 (ev_dt dt_Lw_law_5 49 rfl) ?_
  refine ev_aload_0 (ev_dt dt_Lw_law_5 50 rfl) ?_
  refine ev_iload_4 (ev_dt dt_Lw_law_5 51 rfl) ?_
  refine ev_ic1 (ev_dt dt_Lw_law_5 52 rfl) ?_
  refine ev_addn (ev_dt dt_Lw_law_5 53 rfl) ?_
  refine ev_sld (ev_dt dt_Lw_law_5 54 rfl) hX hb (by omega) (by omega) ?_
  refine ev_aload_0 (ev_dt dt_Lw_law_5 55 rfl) ?_
  refine ev_iload_4 (ev_dt dt_Lw_law_5 56 rfl) ?_
  refine ev_ic2 (ev_dt dt_Lw_law_5 57 rfl) ?_
  refine ev_addn (ev_dt dt_Lw_law_5 58 rfl) ?_
  refine ev_sld (ev_dt dt_Lw_law_5 59 rfl) hX hb (by omega) (by omega) ?_
  refine ev_aload_0 (ev_dt dt_Lw_law_6 0 rfl) ?_
  refine ev_iload_4 (ev_dt dt_Lw_law_6 1 rfl) ?_
  refine ev_ic3 (ev_dt dt_Lw_law_6 2 rfl) ?_
  refine ev_addn (ev_dt dt_Lw_law_6 3 rfl) ?_
  refine ev_sld (ev_dt dt_Lw_law_6 4 rfl) hX hb (by omega) (by omega) ?_
  refine ev_aload_3 (ev_dt dt_Lw_law_6 5 rfl) ?_
  refine ev_callS (ev_dt dt_Lw_law_6 6 rfl) s_Lw_103 [.ref X, .int (xs (5 * t + 1)), .int (xs (5 * t + 2)), .int (xs (5 * t + 3)), .ref (X + 107)] rfl np_Lw_term rfl (ev_lk_of (j := 1) rfl rfl) ?_
  refine ev_aload_4 (ev_dt dt_Lw_term_0 0 rfl) ?_
  refine ev_ic0 (ev_dt dt_Lw_term_0 1 rfl) ?_
  refine ev_aload_0 (ev_dt dt_Lw_term_0 2 rfl) ?_
  refine ev_iload_1 (ev_dt dt_Lw_term_0 3 rfl) ?_
  refine ev_iload_2 (ev_dt dt_Lw_term_0 4 rfl) ?_
  refine ev_iload_3 (ev_dt dt_Lw_term_0 5 rfl) ?_
  refine ev_callV (ev_dt dt_Lw_term_0 6 rfl) v_Lw_30_0 hP.1 [.int (xs (5 * t + 1)), .int (xs (5 * t + 2)), .int (xs (5 * t + 3))] rfl np_PT_term rfl (ev_lk_of (j := 2) rfl rfl) (t_PT_term (d := d) hnc hZ hqn hs hP (fun hx h1 hP1 hs1 hf1 he1 => ev_rt ?_) (fun kd i j h6 h9 ex hi ey hj hfull h1 hP1 hs1 hf1 he1 => ev_rt ?_) (fun kd i j h6 h9 ex hi ey hj hne hz h1 sz1 f hP1 hs1 hf1 => ev_r1 ?_))
  · have hM1 := hM.cF hf1
    have ho1 := (hf1 (X + 107) (by omega) (by omega)).trans ho
    refine ev_catch1 rfl rfl (by decide) wl_24 rfl wc_12 he1 ?_
    refine ev_astore_5 (ev_dt dt_Lw_term_0 10 rfl) (by decide) rfl ?_
    refine ev_ic1 (ev_dt dt_Lw_term_0 11 rfl) ?_
    refine ev_ireturn (ev_dt dt_Lw_term_0 12 rfl) rfl rfl (ev_r1 ?_)
    refine ev_istore_5 (ev_dt dt_Lw_law_6 7 rfl) (by decide) rfl ?_
    refine ev_aload_2 (ev_dt dt_Lw_law_6 8 rfl) ?_
    refine ev_aload_0 (ev_dt dt_Lw_law_6 9 rfl) ?_
    refine ev_iload_4 (ev_dt dt_Lw_law_6 10 rfl) ?_
    refine ev_ic1 (ev_dt dt_Lw_law_6 11 rfl) ?_
    refine ev_addn (ev_dt dt_Lw_law_6 12 rfl) ?_
    refine ev_sld (ev_dt dt_Lw_law_6 13 rfl) hX hb (by omega) (by omega) ?_
    refine ev_aload_0 (ev_dt dt_Lw_law_6 14 rfl) ?_
    refine ev_iload_4 (ev_dt dt_Lw_law_6 15 rfl) ?_
    refine ev_ic2 (ev_dt dt_Lw_law_6 16 rfl) ?_
    refine ev_addn (ev_dt dt_Lw_law_6 17 rfl) ?_
    refine ev_sld (ev_dt dt_Lw_law_6 18 rfl) hX hb (by omega) (by omega) ?_
    refine ev_aload_0 (ev_dt dt_Lw_law_6 19 rfl) ?_
    refine ev_iload_4 (ev_dt dt_Lw_law_6 20 rfl) ?_
    refine ev_ic3 (ev_dt dt_Lw_law_6 21 rfl) ?_
    refine ev_addn (ev_dt dt_Lw_law_6 22 rfl) ?_
    refine ev_sld (ev_dt dt_Lw_law_6 23 rfl) hX hb (by omega) (by omega) ?_
    refine ev_callV (ev_dt dt_Lw_law_6 24 rfl) v_Lw_105_10 hM1.1 [.int (xs (5 * t + 1)), .int (xs (5 * t + 2)), .int (xs (5 * t + 3))] rfl np_Md_term rfl (ev_lk_of (j := 1) rfl rfl) (r_term (d := d + 60) hM1 hS.1 hnc (fun _ h2 hM2 hf2 => ev_r1 ?_) (fun kd2 i2 j2 h62 h92 ex2 hi2 ey2 hj2 _ => False.elim (cx_term hx h62 h92 ex2 hi2 ey2 hj2)) (fun kd2 i2 j2 h62 h92 ex2 hi2 ey2 hj2 _ _ => False.elim (cx_term hx h62 h92 ex2 hi2 ey2 hj2)))
    have hP2 := hP1.byRef hf2
    have ho2 := (hf2 (X + 107) (Or.inr (by omega))).trans ho1
    refine ev_istore_6 (ev_dt dt_Lw_law_6 25 rfl) (by decide) rfl ?_
    refine ev_aload_2 (ev_dt dt_Lw_law_6 26 rfl) ?_
    refine ev_callV (ev_dt dt_Lw_law_6 27 rfl) v_Lw_75_10 hM2.1 [] rfl np_Md_thrown rfl (ev_lk_of (j := 0) rfl rfl) (r_thrown hM2 (ev_r1 ?_))
    refine ev_iload_5 (ev_dt dt_Lw_law_6 28 rfl) ?_
    refine ev_icmp_eqT (tgt := 662) (ev_dt dt_Lw_law_6 29 rfl) (by decide) rfl ?_
    refine ev_iload_5 (ev_dt dt_Lw_law_6 32 rfl) ?_
    refine ev_if_neT (tgt := 679) (ev_dt dt_Lw_law_6 33 rfl) (by decide) (by decide +kernel) ?_
    refine ev_goto (tgt := 1484) (ev_dt dt_Lw_law_6 43 rfl) (by decide) ?_
    refine ev_fg_5 (ev_fg_6 ?_)
    exact kk h2 _ _ _ (LI.mk hP2 hs1 hM2 ho2 hR.thr (by omega)) (by omega) (by omega)
  · have hM1 := hM.cF hf1
    have ho1 := (hf1 (X + 107) (by omega) (by omega)).trans ho
    refine ev_catch2n rfl rfl rfl (by decide) (by decide) wl_24 wl_13 rfl hE (by decide +kernel) wc_11 he1 ?_
    refine ev_astore_5 (ev_dt dt_Lw_term_0 13 rfl) (by decide) rfl ?_
    refine ev_ic2 (ev_dt dt_Lw_term_0 14 rfl) ?_
    refine ev_ireturn (ev_dt dt_Lw_term_0 15 rfl) rfl rfl (ev_r1 ?_)
    refine ev_istore_5 (ev_dt dt_Lw_law_6 7 rfl) (by decide) rfl ?_
    refine ev_aload_2 (ev_dt dt_Lw_law_6 8 rfl) ?_
    refine ev_aload_0 (ev_dt dt_Lw_law_6 9 rfl) ?_
    refine ev_iload_4 (ev_dt dt_Lw_law_6 10 rfl) ?_
    refine ev_ic1 (ev_dt dt_Lw_law_6 11 rfl) ?_
    refine ev_addn (ev_dt dt_Lw_law_6 12 rfl) ?_
    refine ev_sld (ev_dt dt_Lw_law_6 13 rfl) hX hb (by omega) (by omega) ?_
    refine ev_aload_0 (ev_dt dt_Lw_law_6 14 rfl) ?_
    refine ev_iload_4 (ev_dt dt_Lw_law_6 15 rfl) ?_
    refine ev_ic2 (ev_dt dt_Lw_law_6 16 rfl) ?_
    refine ev_addn (ev_dt dt_Lw_law_6 17 rfl) ?_
    refine ev_sld (ev_dt dt_Lw_law_6 18 rfl) hX hb (by omega) (by omega) ?_
    refine ev_aload_0 (ev_dt dt_Lw_law_6 19 rfl) ?_
    refine ev_iload_4 (ev_dt dt_Lw_law_6 20 rfl) ?_
    refine ev_ic3 (ev_dt dt_Lw_law_6 21 rfl) ?_
    refine ev_addn (ev_dt dt_Lw_law_6 22 rfl) ?_
    refine ev_sld (ev_dt dt_Lw_law_6 23 rfl) hX hb (by omega) (by omega) ?_
    refine ev_callV (ev_dt dt_Lw_law_6 24 rfl) v_Lw_105_10 hM1.1 [.int (xs (5 * t + 1)), .int (xs (5 * t + 2)), .int (xs (5 * t + 3))] rfl np_Md_term rfl (ev_lk_of (j := 1) rfl rfl) (r_term (d := d + 60) hM1 hS.1 hnc (fun g => False.elim (cx_term g h6 h9 ex hi ey hj)) (fun kd2 i2 j2 h62 h92 ex2 hi2 ey2 hj2 _ h2 hM2 hf2 => ev_r1 ?_) (fun kd2 i2 j2 h62 h92 ex2 hi2 ey2 hj2 g1 g2 => False.elim (by obtain rfl : kd = kd2 := nI_inj (by omega) (by omega) ex ex2; obtain rfl : i = i2 := nI_inj (by omega) (by omega) ey ey2; obtain rfl : j = j2 := term_j hnc hj2 hj; exact hfull.elim g1 (fun q => by omega))))
    have hP2 := hP1.byRef hf2
    have ho2 := (hf2 (X + 107) (Or.inr (by omega))).trans ho1
    refine ev_istore_6 (ev_dt dt_Lw_law_6 25 rfl) (by decide) rfl ?_
    refine ev_aload_2 (ev_dt dt_Lw_law_6 26 rfl) ?_
    refine ev_callV (ev_dt dt_Lw_law_6 27 rfl) v_Lw_75_10 hM2.1 [] rfl np_Md_thrown rfl (ev_lk_of (j := 0) rfl rfl) (r_thrown hM2 (ev_r1 ?_))
    refine ev_iload_5 (ev_dt dt_Lw_law_6 28 rfl) ?_
    refine ev_icmp_eqT (tgt := 662) (ev_dt dt_Lw_law_6 29 rfl) (by decide) rfl ?_
    refine ev_iload_5 (ev_dt dt_Lw_law_6 32 rfl) ?_
    refine ev_if_neT (tgt := 679) (ev_dt dt_Lw_law_6 33 rfl) (by decide) (by decide +kernel) ?_
    refine ev_goto (tgt := 1484) (ev_dt dt_Lw_law_6 43 rfl) (by decide) ?_
    refine ev_fg_5 (ev_fg_6 ?_)
    exact kk h2 _ _ _ (LI.mk hP2 hs1 hM2 ho2 hR.thr (by omega)) (by omega) (by omega)
  · have hM1 := hM.cF hf1
    have ho1 := (hf1 (X + 107) (by omega) (by omega)).trans ho
    refine ev_i2l (ev_dt dt_Lw_term_0 7 rfl) rfl ?_
    refine ev_outS (ev_dt dt_Lw_term_0 8 rfl) hP1 hM1 ho1 (fun h3 o3 hP3 hM3 ho3 hov3 => ?_)
    refine ev_goto (tgt := 23) (ev_dt dt_Lw_term_0 9 rfl) (by decide) ?_
    refine ev_ic0 (ev_dt dt_Lw_term_0 16 rfl) ?_
    refine ev_ireturn (ev_dt dt_Lw_term_0 17 rfl) rfl rfl (ev_r1 ?_)
    refine ev_istore_5 (ev_dt dt_Lw_law_6 7 rfl) (by decide) rfl ?_
    refine ev_aload_2 (ev_dt dt_Lw_law_6 8 rfl) ?_
    refine ev_aload_0 (ev_dt dt_Lw_law_6 9 rfl) ?_
    refine ev_iload_4 (ev_dt dt_Lw_law_6 10 rfl) ?_
    refine ev_ic1 (ev_dt dt_Lw_law_6 11 rfl) ?_
    refine ev_addn (ev_dt dt_Lw_law_6 12 rfl) ?_
    refine ev_sld (ev_dt dt_Lw_law_6 13 rfl) hX hb (by omega) (by omega) ?_
    refine ev_aload_0 (ev_dt dt_Lw_law_6 14 rfl) ?_
    refine ev_iload_4 (ev_dt dt_Lw_law_6 15 rfl) ?_
    refine ev_ic2 (ev_dt dt_Lw_law_6 16 rfl) ?_
    refine ev_addn (ev_dt dt_Lw_law_6 17 rfl) ?_
    refine ev_sld (ev_dt dt_Lw_law_6 18 rfl) hX hb (by omega) (by omega) ?_
    refine ev_aload_0 (ev_dt dt_Lw_law_6 19 rfl) ?_
    refine ev_iload_4 (ev_dt dt_Lw_law_6 20 rfl) ?_
    refine ev_ic3 (ev_dt dt_Lw_law_6 21 rfl) ?_
    refine ev_addn (ev_dt dt_Lw_law_6 22 rfl) ?_
    refine ev_sld (ev_dt dt_Lw_law_6 23 rfl) hX hb (by omega) (by omega) ?_
    refine ev_callV (ev_dt dt_Lw_law_6 24 rfl) v_Lw_105_10 hM3.1 [.int (xs (5 * t + 1)), .int (xs (5 * t + 2)), .int (xs (5 * t + 3))] rfl np_Md_term rfl (ev_lk_of (j := 1) rfl rfl) (r_term (d := d + 60) hM3 hS.1 hnc (fun g => False.elim (cx_term g h6 h9 ex hi ey hj)) (fun kd2 i2 j2 h62 h92 ex2 hi2 ey2 hj2 g => False.elim (by obtain rfl : kd = kd2 := nI_inj (by omega) (by omega) ex ex2; obtain rfl : i = i2 := nI_inj (by omega) (by omega) ey ey2; obtain rfl : j = j2 := term_j hnc hj2 hj; exact g.elim hne (fun q => by omega))) (fun kd2 i2 j2 h62 h92 ex2 hi2 ey2 hj2 _ _ h2 hM2 hf2 => ev_r1 ?_))
    obtain rfl : kd = kd2 := nI_inj (by omega) (by omega) ex ex2
    obtain rfl : i = i2 := nI_inj (by omega) (by omega) ey ey2
    obtain rfl : j = j2 := term_j hnc hj2 hj
    have hP2 := hP3.byRef hf2
    have ho2 := (hf2 (X + 107) (Or.inr (by omega))).trans ho3
    refine ev_istore_6 (ev_dt dt_Lw_law_6 25 rfl) (by decide) rfl ?_
    refine ev_aload_2 (ev_dt dt_Lw_law_6 26 rfl) ?_
    refine ev_callV (ev_dt dt_Lw_law_6 27 rfl) v_Lw_75_10 hM2.1 [] rfl np_Md_thrown rfl (ev_lk_of (j := 0) rfl rfl) (r_thrown hM2 (ev_r1 ?_))
    refine ev_iload_5 (ev_dt dt_Lw_law_6 28 rfl) ?_
    refine ev_icmp_eqT (tgt := 662) (ev_dt dt_Lw_law_6 29 rfl) (by decide) rfl ?_
    refine ev_iload_5 (ev_dt dt_Lw_law_6 32 rfl) ?_
    refine ev_if_neF (tgt := 679) (ev_dt dt_Lw_law_6 33 rfl) (by decide) z00 ?_
    refine ev_aload_3 (ev_dt dt_Lw_law_6 34 rfl) ?_
    refine ev_ic0 (ev_dt dt_Lw_law_6 35 rfl) ?_
    refine ev_lald (ev_dt dt_Lw_law_6 36 rfl) ho2 (by omega) (by decide) hov3 ?_
    refine ev_iload_6 (ev_dt dt_Lw_law_6 37 rfl) ?_
    refine ev_i2l (ev_dt dt_Lw_law_6 38 rfl) rfl ?_
    refine ev_lcmp (ev_dt dt_Lw_law_6 39 rfl) ?_
    refine ev_if_eqT (tgt := 679) (ev_dt dt_Lw_law_6 40 rfl) (by decide) (lgc rfl) ?_
    refine ev_goto (tgt := 1484) (ev_dt dt_Lw_law_6 43 rfl) (by decide) ?_
    refine ev_fg_5 (ev_fg_6 ?_)
    exact kk h2 _ _ _ (LI.mk hP2 hs1 hM2 ho2 (kp_term hR hne h6 h9 hi (hj.elim (fun q => by rw [q.2]; exact hi) (fun q => q.2.1)) (fun e => hj.elim (fun q => q.2) (fun q => absurd e q.1)) hz) (by omega)) (by omega) (by omega)
theorem c_condition {E : ev_E} {X b L t tt d k n sz : Nat} {xs : Nat → Int32} {h : ev_h} {Q : ev_Q} (hE : ev_nok E) (hX : va_X b L xs E.2.2.2.1 E.2.2.2.1.heap) (hb : b < ev_b E) (hL : L ≤ 2560) (ht : 5 * t + 5 ≤ L) (htt : tt ≤ 50000) (hI : LI E X tt h sz) (kk : ∀ h' sz' k' n', LI E X (tt + 1) h' sz' → k ≤ k' → n ≤ n' → Ev E m_Lw_law (d + 62) 1484 [some (.ref b), some (.ref X), some (.ref (X + 78)), some (.ref (X + 107)), some (.int (nI (5 * t))), none, none] [] h' sz' k' n' Q) : Ev E m_Lw_law (d + 62) 682 [some (.ref b), some (.ref X), some (.ref (X + 78)), some (.ref (X + 107)), some (.int (nI (5 * t))), none, none] [] h sz (k + 3) (n + 27) Q := by
  obtain ⟨nc, al, fl, c, mr, cc, ac, nu, on, op, th, af, ff, V, qs, N, ed, zs, cs, ad, F, A, T, π, cn, co, cq, oq, sn, o, hP, hs, hM, ho, hR, hal⟩ := hI
  obtain rfl : F 1 = mr := hR.1.1
  obtain rfl : F 2 = nc := hR.2.1.1
  obtain rfl : F 3 = ac := hR.2.2.2.1.1
  obtain rfl : F 5 = fl := hR.2.2.2.2.1.1
  have hcn : cnt T (F 1) = c := en_total hR.1.2.2.2.2.1
  have hc24 : c ≤ 24 := hR.1.2.2.1
  have hm120 : F 1 ≤ 120 := hR.1.2.1
  have hnc : F 2 ≤ 24 := hR.2.1.2.1
  have hT := hR.1.2.2.2.1
  have hS := hR.2.1.2.2.1
  have hok := hR.2.1.2.2.2.1
  have hZ := hR.2.1.2.2.2.2.1
  have hC := hR.2.2.1.1
  have hcc : cc ≤ 4 := hC.2.2.2.1
  have hon : ∀ i, i < cc → on i = nI (cn i) ∧ cn i < 4 := fun i hi => ⟨(hR.2.2.1.2 i hi).1, (hC.2.2.2.2 i hi).2.1⟩
  have hop : ∀ i, i < cc → op i = nI (co i) ∧ co i < 6 := fun i hi => ⟨(hR.2.2.1.2 i hi).2, (hC.2.2.2.2 i hi).2.2.2.1⟩
  have hps : ∀ i, i < c → ((fun j => okb cn co th (V j) cc) i = true ↔ okC cc cn co th (V i)) := fun i _ => okb_iff cc
  have hqn : ∀ s, s < 4 → (qs s).1 ≤ F 2 := fun s hs => (hR.2.2.2.2.2 s hs).1.2.1
  have hp24 := rw_24 (qc := cc) (a := cn) (b := co) (t := th) hR.1
  have hokT := hR.2.1.okT
  refine ev_aload_1 (ev_dt dt_Lw_law_6 44 rfl) ?_
  refine ev_aload_0 (ev_dt dt_Lw_law_6 45 rfl) ?_
  refine ev_iload_4 (ev_dt dt_Lw_law_6 46 rfl) ?_
  refine ev_ic1 (ev_dt dt_Lw_law_6 47 rfl) ?_
  refine ev_addn (ev_dt dt_Lw_law_6 48 rfl) ?_
  refine ev_sld (ev_dt dt_Lw_law_6 49 rfl) hX hb (by omega) (by omega) ?_
  refine ev_aload_0 (ev_dt dt_Lw_law_6 50 rfl) ?_
  refine ev_iload_4 (ev_dt dt_Lw_law_6 51 rfl) ?_
  refine ev_ic2 (ev_dt dt_Lw_law_6 52 rfl) ?_
  refine ev_addn (ev_dt dt_Lw_law_6 53 rfl) ?_
  refine ev_sld (ev_dt dt_Lw_law_6 54 rfl) hX hb (by omega) (by omega) ?_
  refine ev_aload_0 (ev_dt dt_Lw_law_6 55 rfl) ?_
  refine ev_iload_4 (ev_dt dt_Lw_law_6 56 rfl) ?_
  refine ev_ic3 (ev_dt dt_Lw_law_6 57 rfl) ?_
  refine ev_addn (ev_dt dt_Lw_law_6 58 rfl) ?_
  refine ev_sld (ev_dt dt_Lw_law_6 59 rfl) hX hb (by omega) (by omega) ?_
  refine ev_aload_3 (ev_dt dt_Lw_law_7 0 rfl) ?_
  refine ev_callS (ev_dt dt_Lw_law_7 1 rfl) s_Lw_106 [.ref X, .int (xs (5 * t + 1)), .int (xs (5 * t + 2)), .int (xs (5 * t + 3)), .ref (X + 107)] rfl np_Lw_condition rfl (ev_lk_of (j := 1) rfl rfl) ?_
  refine ev_aload_4 (ev_dt dt_Lw_condition_0 0 rfl) ?_
  refine ev_ic0 (ev_dt dt_Lw_condition_0 1 rfl) ?_
  refine ev_aload_0 (ev_dt dt_Lw_condition_0 2 rfl) ?_
  refine ev_iload_1 (ev_dt dt_Lw_condition_0 3 rfl) ?_
  refine ev_iload_2 (ev_dt dt_Lw_condition_0 4 rfl) ?_
  refine ev_iload_3 (ev_dt dt_Lw_condition_0 5 rfl) ?_
  refine ev_callV (ev_dt dt_Lw_condition_0 6 rfl) v_Lw_34_0 hP.1 [.int (xs (5 * t + 1)), .int (xs (5 * t + 2)), .int (xs (5 * t + 3))] rfl np_PT_condition rfl (ev_lk_of (j := 0) rfl rfl) (t_PT_condition (d := d) hcc hs hP (fun hx h1 hP1 hs1 hf1 he1 => ev_rt ?_) (fun l q hl ex hq ey h4 h1 hP1 hs1 hf1 he1 => ev_rt ?_) (fun l q hl ex hq ey hne h1 hP1 hf1 => ev_r1 ?_))
  · have hM1 := hM.cF hf1
    have ho1 := (hf1 (X + 107) (by omega) (by omega)).trans ho
    refine ev_catch1 rfl rfl (by decide) wl_24 rfl wc_12 he1 ?_
    refine ev_astore_5 (ev_dt dt_Lw_condition_0 10 rfl) (by decide) rfl ?_
    refine ev_ic1 (ev_dt dt_Lw_condition_0 11 rfl) ?_
    refine ev_ireturn (ev_dt dt_Lw_condition_0 12 rfl) rfl rfl (ev_r1 ?_)
    refine ev_istore_5 (ev_dt dt_Lw_law_7 2 rfl) (by decide) rfl ?_
    refine ev_aload_2 (ev_dt dt_Lw_law_7 3 rfl) ?_
    refine ev_aload_0 (ev_dt dt_Lw_law_7 4 rfl) ?_
    refine ev_iload_4 (ev_dt dt_Lw_law_7 5 rfl) ?_
    refine ev_ic1 (ev_dt dt_Lw_law_7 6 rfl) ?_
    refine ev_addn (ev_dt dt_Lw_law_7 7 rfl) ?_
    refine ev_sld (ev_dt dt_Lw_law_7 8 rfl) hX hb (by omega) (by omega) ?_
    refine ev_aload_0 (ev_dt dt_Lw_law_7 9 rfl) ?_
    refine ev_iload_4 (ev_dt dt_Lw_law_7 10 rfl) ?_
    refine ev_ic2 (ev_dt dt_Lw_law_7 11 rfl) ?_
    refine ev_addn (ev_dt dt_Lw_law_7 12 rfl) ?_
    refine ev_sld (ev_dt dt_Lw_law_7 13 rfl) hX hb (by omega) (by omega) ?_
    refine ev_aload_0 (ev_dt dt_Lw_law_7 14 rfl) ?_
    refine ev_iload_4 (ev_dt dt_Lw_law_7 15 rfl) ?_
    refine ev_ic3 (ev_dt dt_Lw_law_7 16 rfl) ?_
    refine ev_addn (ev_dt dt_Lw_law_7 17 rfl) ?_
    refine ev_sld (ev_dt dt_Lw_law_7 18 rfl) hX hb (by omega) (by omega) ?_
    refine ev_callV (ev_dt dt_Lw_law_7 19 rfl) v_Lw_108_10 hM1.1 [.int (xs (5 * t + 1)), .int (xs (5 * t + 2)), .int (xs (5 * t + 3))] rfl np_Md_condition rfl (ev_lk_of (j := 1) rfl rfl) (r_condition (d := d + 60) hM1 hC.2.2.1 hcc (fun _ h2 hM2 hf2 => ev_r1 ?_) (fun l2 q2 hl2 ex2 hq2 ey2 _ => False.elim (hx.elim (fun g => g l2 hl2 ex2) (fun g => g q2 hq2 ey2))) (fun l2 q2 hl2 ex2 hq2 ey2 _ => False.elim (hx.elim (fun g => g l2 hl2 ex2) (fun g => g q2 hq2 ey2))))
    have hP2 := hP1.byRef hf2
    have ho2 := (hf2 (X + 107) (Or.inr (by omega))).trans ho1
    refine ev_istore_6 (ev_dt dt_Lw_law_7 20 rfl) (by decide) rfl ?_
    refine ev_aload_2 (ev_dt dt_Lw_law_7 21 rfl) ?_
    refine ev_callV (ev_dt dt_Lw_law_7 22 rfl) v_Lw_75_10 hM2.1 [] rfl np_Md_thrown rfl (ev_lk_of (j := 0) rfl rfl) (r_thrown hM2 (ev_r1 ?_))
    refine ev_iload_5 (ev_dt dt_Lw_law_7 23 rfl) ?_
    refine ev_icmp_eqT (tgt := 742) (ev_dt dt_Lw_law_7 24 rfl) (by decide) rfl ?_
    refine ev_iload_5 (ev_dt dt_Lw_law_7 27 rfl) ?_
    refine ev_if_neT (tgt := 759) (ev_dt dt_Lw_law_7 28 rfl) (by decide) (by decide +kernel) ?_
    refine ev_goto (tgt := 1484) (ev_dt dt_Lw_law_7 38 rfl) (by decide) ?_
    refine ev_fg_5 (ev_fg_6 ?_)
    exact kk h2 _ _ _ (LI.mk hP2 hs1 hM2 ho2 hR.thr (by omega)) (by omega) (by omega)
  · have hM1 := hM.cF hf1
    have ho1 := (hf1 (X + 107) (by omega) (by omega)).trans ho
    refine ev_catch2n rfl rfl rfl (by decide) (by decide) wl_24 wl_13 rfl hE (by decide +kernel) wc_11 he1 ?_
    refine ev_astore_5 (ev_dt dt_Lw_condition_0 13 rfl) (by decide) rfl ?_
    refine ev_ic2 (ev_dt dt_Lw_condition_0 14 rfl) ?_
    refine ev_ireturn (ev_dt dt_Lw_condition_0 15 rfl) rfl rfl (ev_r1 ?_)
    refine ev_istore_5 (ev_dt dt_Lw_law_7 2 rfl) (by decide) rfl ?_
    refine ev_aload_2 (ev_dt dt_Lw_law_7 3 rfl) ?_
    refine ev_aload_0 (ev_dt dt_Lw_law_7 4 rfl) ?_
    refine ev_iload_4 (ev_dt dt_Lw_law_7 5 rfl) ?_
    refine ev_ic1 (ev_dt dt_Lw_law_7 6 rfl) ?_
    refine ev_addn (ev_dt dt_Lw_law_7 7 rfl) ?_
    refine ev_sld (ev_dt dt_Lw_law_7 8 rfl) hX hb (by omega) (by omega) ?_
    refine ev_aload_0 (ev_dt dt_Lw_law_7 9 rfl) ?_
    refine ev_iload_4 (ev_dt dt_Lw_law_7 10 rfl) ?_
    refine ev_ic2 (ev_dt dt_Lw_law_7 11 rfl) ?_
    refine ev_addn (ev_dt dt_Lw_law_7 12 rfl) ?_
    refine ev_sld (ev_dt dt_Lw_law_7 13 rfl) hX hb (by omega) (by omega) ?_
    refine ev_aload_0 (ev_dt dt_Lw_law_7 14 rfl) ?_
    refine ev_iload_4 (ev_dt dt_Lw_law_7 15 rfl) ?_
    refine ev_ic3 (ev_dt dt_Lw_law_7 16 rfl) ?_
    refine ev_addn (ev_dt dt_Lw_law_7 17 rfl) ?_
    refine ev_sld (ev_dt dt_Lw_law_7 18 rfl) hX hb (by omega) (by omega) ?_
    refine ev_callV (ev_dt dt_Lw_law_7 19 rfl) v_Lw_108_10 hM1.1 [.int (xs (5 * t + 1)), .int (xs (5 * t + 2)), .int (xs (5 * t + 3))] rfl np_Md_condition rfl (ev_lk_of (j := 1) rfl rfl) (r_condition (d := d + 60) hM1 hC.2.2.1 hcc (fun g => False.elim (g.elim (fun g => g l hl ex) (fun g => g q hq ey))) (fun l2 q2 hl2 ex2 hq2 ey2 _ h2 hM2 hf2 => ev_r1 ?_) (fun l2 q2 hl2 ex2 hq2 ey2 g => False.elim (g h4)))
    have hP2 := hP1.byRef hf2
    have ho2 := (hf2 (X + 107) (Or.inr (by omega))).trans ho1
    refine ev_istore_6 (ev_dt dt_Lw_law_7 20 rfl) (by decide) rfl ?_
    refine ev_aload_2 (ev_dt dt_Lw_law_7 21 rfl) ?_
    refine ev_callV (ev_dt dt_Lw_law_7 22 rfl) v_Lw_75_10 hM2.1 [] rfl np_Md_thrown rfl (ev_lk_of (j := 0) rfl rfl) (r_thrown hM2 (ev_r1 ?_))
    refine ev_iload_5 (ev_dt dt_Lw_law_7 23 rfl) ?_
    refine ev_icmp_eqT (tgt := 742) (ev_dt dt_Lw_law_7 24 rfl) (by decide) rfl ?_
    refine ev_iload_5 (ev_dt dt_Lw_law_7 27 rfl) ?_
    refine ev_if_neT (tgt := 759) (ev_dt dt_Lw_law_7 28 rfl) (by decide) (by decide +kernel) ?_
    refine ev_goto (tgt := 1484) (ev_dt dt_Lw_law_7 38 rfl) (by decide) ?_
    refine ev_fg_5 (ev_fg_6 ?_)
    exact kk h2 _ _ _ (LI.mk hP2 hs1 hM2 ho2 hR.thr (by omega)) (by omega) (by omega)
  · have hM1 := hM.cF hf1
    have ho1 := (hf1 (X + 107) (by omega) (by omega)).trans ho
    refine ev_i2l (ev_dt dt_Lw_condition_0 7 rfl) rfl ?_
    refine ev_outS (ev_dt dt_Lw_condition_0 8 rfl) hP1 hM1 ho1 (fun h3 o3 hP3 hM3 ho3 hov3 => ?_)
    refine ev_goto (tgt := 23) (ev_dt dt_Lw_condition_0 9 rfl) (by decide) ?_
    refine ev_ic0 (ev_dt dt_Lw_condition_0 16 rfl) ?_
    refine ev_ireturn (ev_dt dt_Lw_condition_0 17 rfl) rfl rfl (ev_r1 ?_)
    refine ev_istore_5 (ev_dt dt_Lw_law_7 2 rfl) (by decide) rfl ?_
    refine ev_aload_2 (ev_dt dt_Lw_law_7 3 rfl) ?_
    refine ev_aload_0 (ev_dt dt_Lw_law_7 4 rfl) ?_
    refine ev_iload_4 (ev_dt dt_Lw_law_7 5 rfl) ?_
    refine ev_ic1 (ev_dt dt_Lw_law_7 6 rfl) ?_
    refine ev_addn (ev_dt dt_Lw_law_7 7 rfl) ?_
    refine ev_sld (ev_dt dt_Lw_law_7 8 rfl) hX hb (by omega) (by omega) ?_
    refine ev_aload_0 (ev_dt dt_Lw_law_7 9 rfl) ?_
    refine ev_iload_4 (ev_dt dt_Lw_law_7 10 rfl) ?_
    refine ev_ic2 (ev_dt dt_Lw_law_7 11 rfl) ?_
    refine ev_addn (ev_dt dt_Lw_law_7 12 rfl) ?_
    refine ev_sld (ev_dt dt_Lw_law_7 13 rfl) hX hb (by omega) (by omega) ?_
    refine ev_aload_0 (ev_dt dt_Lw_law_7 14 rfl) ?_
    refine ev_iload_4 (ev_dt dt_Lw_law_7 15 rfl) ?_
    refine ev_ic3 (ev_dt dt_Lw_law_7 16 rfl) ?_
    refine ev_addn (ev_dt dt_Lw_law_7 17 rfl) ?_
    refine ev_sld (ev_dt dt_Lw_law_7 18 rfl) hX hb (by omega) (by omega) ?_
    refine ev_callV (ev_dt dt_Lw_law_7 19 rfl) v_Lw_108_10 hM3.1 [.int (xs (5 * t + 1)), .int (xs (5 * t + 2)), .int (xs (5 * t + 3))] rfl np_Md_condition rfl (ev_lk_of (j := 1) rfl rfl) (r_condition (d := d + 60) hM3 hC.2.2.1 hcc (fun g => False.elim (g.elim (fun g => g l hl ex) (fun g => g q hq ey))) (fun l2 q2 hl2 ex2 hq2 ey2 g => False.elim (hne g)) (fun l2 q2 hl2 ex2 hq2 ey2 _ h2 hM2 hf2 => ev_r1 ?_))
    obtain rfl : l = l2 := nI_inj (by omega) (by omega) ex ex2
    obtain rfl : q = q2 := nI_inj (by omega) (by omega) ey ey2
    have hP2 := hP3.byRef hf2
    have ho2 := (hf2 (X + 107) (Or.inr (by omega))).trans ho3
    refine ev_istore_6 (ev_dt dt_Lw_law_7 20 rfl) (by decide) rfl ?_
    refine ev_aload_2 (ev_dt dt_Lw_law_7 21 rfl) ?_
    refine ev_callV (ev_dt dt_Lw_law_7 22 rfl) v_Lw_75_10 hM2.1 [] rfl np_Md_thrown rfl (ev_lk_of (j := 0) rfl rfl) (r_thrown hM2 (ev_r1 ?_))
    refine ev_iload_5 (ev_dt dt_Lw_law_7 23 rfl) ?_
    refine ev_icmp_eqT (tgt := 742) (ev_dt dt_Lw_law_7 24 rfl) (by decide) rfl ?_
    refine ev_iload_5 (ev_dt dt_Lw_law_7 27 rfl) ?_
    refine ev_if_neF (tgt := 759) (ev_dt dt_Lw_law_7 28 rfl) (by decide) z00 ?_
    refine ev_aload_3 (ev_dt dt_Lw_law_7 29 rfl) ?_
    refine ev_ic0 (ev_dt dt_Lw_law_7 30 rfl) ?_
    refine ev_lald (ev_dt dt_Lw_law_7 31 rfl) ho2 (by omega) (by decide) hov3 ?_
    refine ev_iload_6 (ev_dt dt_Lw_law_7 32 rfl) ?_
    refine ev_i2l (ev_dt dt_Lw_law_7 33 rfl) rfl ?_
    refine ev_lcmp (ev_dt dt_Lw_law_7 34 rfl) ?_
    refine ev_if_eqT (tgt := 759) (ev_dt dt_Lw_law_7 35 rfl) (by decide) (lgc rfl) ?_
    refine ev_goto (tgt := 1484) (ev_dt dt_Lw_law_7 38 rfl) (by decide) ?_
    refine ev_fg_5 (ev_fg_6 ?_)
    exact kk h2 _ _ _ (LI.mk hP2 hs hM2 ho2 (kp_cond hR hl hq hne) (by omega)) (by omega) (by omega)
