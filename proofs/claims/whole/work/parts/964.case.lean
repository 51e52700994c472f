/-! The law's cases (written by gen_law.py over walk.py). -/
theorem c_saved {E : ev_E} {X b L t tt d k n sz : Nat} {xs : Nat → Int32} {h : ev_h} {Q : ev_Q} (hE : ev_nok E) (hX : va_X b L xs E.2.2.2.1 E.2.2.2.1.heap) (hb : b < ev_b E) (hL : L ≤ 2560) (ht : 5 * t + 5 ≤ L) (htt : tt ≤ 50000) (hI : LI E X tt h sz) (kk : ∀ h' sz' k' n', LI E X (tt + 1) h' sz' → k ≤ k' → n ≤ n' → Ev E m_Lw_law (d + 62) 1484 [some (.ref b), some (.ref X), some (.ref (X + 78)), some (.ref (X + 107)), some (.int (nI (5 * t))), none, none] [] h' sz' k' n' Q) : Ev E m_Lw_law (d + 62) 1298 [some (.ref b), some (.ref X), some (.ref (X + 78)), some (.ref (X + 107)), some (.int (nI (5 * t))), none, none] [] h sz (k + 3) (n + 27) Q := by
  obtain ⟨nc, al, fl, c, mr, cc, ac, nu, on, op, th, af, ff, V, qs, N, ed, zs, cs, ad, F, A, T, π, cn, co, cq, oq, sn, o, hP, hs, hM, ho, hR, hal⟩ := hI
  obtain rfl : F 1 = mr := hR.1.1
  obtain rfl : F 2 = nc := hR.2.1.1
  obtain rfl : F 3 = ac := hR.2.2.2.1.1
  obtain rfl : F 5 = fl := hR.2.2.2.2.1.1
  have hcn : cnt T (F 1) = c := en_total hR.1.2.2.2.2.1
  have hc24 : c ≤ 24 := hR.1.2.2.1
  have hm120 : F 1 ≤ 120 := hR.1.2.1
  have hnc : F 2 ≤ 24 := hR.2.1.2.1
  have hT := hR.1.2.2.2.1
  have hS := hR.2.1.2.2.1
  have hok := hR.2.1.2.2.2.1
  have hZ := hR.2.1.2.2.2.2.1
  have hC := hR.2.2.1.1
  have hcc : cc ≤ 4 := hC.2.2.2.1
  have hon : ∀ i, i < cc → on i = nI (cn i) ∧ cn i < 4 := fun i hi => ⟨(hR.2.2.1.2 i hi).1, (hC.2.2.2.2 i hi).2.1⟩
  have hop : ∀ i, i < cc → op i = nI (co i) ∧ co i < 6 := fun i hi => ⟨(hR.2.2.1.2 i hi).2, (hC.2.2.2.2 i hi).2.2.2.1⟩
  have hps : ∀ i, i < c → ((fun j => okb cn co th (V j) cc) i = true ↔ okC cc cn co th (V i)) := fun i _ => okb_iff cc
  have hqn : ∀ s, s < 4 → (qs s).1 ≤ F 2 := fun s hs => (hR.2.2.2.2.2 s hs).1.2.1
  have hp24 := rw_24 (qc := cc) (a := cn) (b := co) (t := th) hR.1
  have hokT := hR.2.1.okT
  refine ev_aload_1 (ev_dt dt_Lw_law_13 36 rfl) ?_
  refine ev_aload_0 (ev_dt dt_Lw_law_13 37 rfl) ?_
  refine ev_iload_4 (ev_dt dt_Lw_law_13 38 rfl) ?_
  refine ev_ic1 (ev_dt dt_Lw_law_13 39 rfl) ?_
  refine ev_addn (ev_dt dt_Lw_law_13 40 rfl) ?_
  refine ev_sld (ev_dt dt_Lw_law_13 41 rfl) hX hb (by omega) (by omega) ?_
  refine ev_aload_0 (ev_dt dt_Lw_law_13 42 rfl) ?_
  refine ev_iload_4 (ev_dt dt_Lw_law_13 43 rfl) ?_
  refine ev_ic2 (ev_dt dt_Lw_law_13 44 rfl) ?_
  refine ev_addn (ev_dt dt_Lw_law_13 45 rfl) ?_
  refine ev_sld (ev_dt dt_Lw_law_13 46 rfl) hX hb (by omega) (by omega) ?_
  refine ev_aload_0 (ev_dt dt_Lw_law_13 47 rfl) ?_
  refine ev_iload_4 (ev_dt dt_Lw_law_13 48 rfl) ?_
  refine ev_ic3 (ev_dt dt_Lw_law_13 49 rfl) ?_
  refine ev_addn (ev_dt dt_Lw_law_13 50 rfl) ?_
  refine ev_sld (ev_dt dt_Lw_law_13 51 rfl) hX hb (by omega) (by omega) ?_
  refine ev_callV (ev_dt dt_Lw_law_13 52 rfl) v_Lw_139_0 hP.1 [.int (xs (5 * t + 1)), .int (xs (5 * t + 2)), .int (xs (5 * t + 3))] rfl np_PT_saved rfl (ev_lk_of (j := 1) rfl rfl) (t_PT_saved (d := d + 1) (cn := cq) (co := oq) (ps := fun s i => okb (cq s) (oq s) (qH (qs s)) (V i) (qC (qs s))) hc24 (show al ≤ 60000 by omega) hnc hok (hR.hqs (by omega)) hP (fun hx => ev_r1 ?_) (fun s nd qc qon qop qth c1 f1 c2 f2 se hs' ex hq h1 c1' f1' hkU hP1 hf1 ey r hpk => ev_r1 ?_) (fun s nd qc qon qop qth c1 f1 c2 f2 se hs' ex hq h1 c1' f1' hkU hP1 hf1 ey r hpk => ev_r1 ?_) (fun s nd qc qon qop qth c1 f1 c2 f2 se hs' ex hq h1 c1' f1' hkU hP1 hf1 ey r hpk => ev_r1 ?_) (fun s nd qc qon qop qth c1 f1 c2 f2 se hs' ex hq h1 c1' f1' hkU hP1 hf1 y0 y1 y2 => ev_r1 ?_))
  · refine ev_aload_2 (ev_dt dt_Lw_law_13 53 rfl) ?_
    refine ev_aload_0 (ev_dt dt_Lw_law_13 54 rfl) ?_
    refine ev_iload_4 (ev_dt dt_Lw_law_13 55 rfl) ?_
    refine ev_ic1 (ev_dt dt_Lw_law_13 56 rfl) ?_
    refine ev_addn (ev_dt dt_Lw_law_13 57 rfl) ?_
    refine ev_sld (ev_dt dt_Lw_law_13 58 rfl) hX hb (by omega) (by omega) ?_
    refine ev_aload_0 (ev_dt dt_Lw_law_13 59 rfl) ?_
    refine ev_iload_4 (ev_dt dt_Lw_law_14 0 rfl) ?_
    refine ev_ic2 (ev_dt dt_Lw_law_14 1 rfl) ?_
    refine ev_addn (ev_dt dt_Lw_law_14 2 rfl) ?_
    refine ev_sld (ev_dt dt_Lw_law_14 3 rfl) hX hb (by omega) (by omega) ?_
    refine ev_aload_0 (ev_dt dt_Lw_law_14 4 rfl) ?_
    refine ev_iload_4 (ev_dt dt_Lw_law_14 5 rfl) ?_
    refine ev_ic3 (ev_dt dt_Lw_law_14 6 rfl) ?_
    refine ev_addn (ev_dt dt_Lw_law_14 7 rfl) ?_
    refine ev_sld (ev_dt dt_Lw_law_14 8 rfl) hX hb (by omega) (by omega) ?_
    refine ev_callV (ev_dt dt_Lw_law_14 9 rfl) v_Lw_142_10 hM.1 [.int (xs (5 * t + 1)), .int (xs (5 * t + 2)), .int (xs (5 * t + 3))] rfl np_Md_saved rfl (ev_lk_of (j := 5) rfl rfl) (r_saved (d := d + 55) (cc := fun s => qC (qs s)) (cn := cq) (co := oq) (th := fun s => qH (qs s)) (sv := fun s => decide (qN (qs s) ≠ 0)) (qi := fun s => qN (qs s) - 1) hM hS hnc (fun s hs' => (hR.2.2.2.2.2 s hs').1.1) (fun s hs' hq => by have h0 := of_decide_eq_true hq; have g := (hR.2.2.2.2.2 s hs'); exact ⟨(g.2 h0).2.1, (g.2 h0).1, by have := g.1.2.1; omega⟩) hm120 (sn := sn) (fun s hs' v hv => (hR.2.2.2.2.2 s hs').1.2.2.2.2.2 v hv) (fun _ h2 hM2 hf2 => ev_r1 ?_) (fun s2 w hs2 ex2 hw2 ey2 hsv2 => False.elim (hx.elim (fun g => g s2 hs2 ex2) (fun g => by obtain ⟨s', hs3, es3, e0⟩ := g; obtain rfl : s' = s2 := nI_inj (by omega) (by omega) es3 ex2; exact of_decide_eq_true hsv2 e0))))
    have hP2 := hP.byRef hf2
    have ho2 := (hf2 (X + 107) (Or.inr (by omega))).trans ho
    refine ev_icmp_eqT (tgt := 1484) (ev_dt dt_Lw_law_14 10 rfl) (by decide) rfl ?_
    refine ev_fg_5 (ev_fg_6 ?_)
    exact kk h2 _ _ _ (LI.mk hP2 hs hM2 ho2 hR.thr (by omega)) (by omega) (by omega)
  · have hM1 := hM.cF hf1
    have ho1 := (hf1 (X + 107) (by omega) (by omega)).trans ho
    refine ev_aload_2 (ev_dt dt_Lw_law_13 53 rfl) ?_
    refine ev_aload_0 (ev_dt dt_Lw_law_13 54 rfl) ?_
    refine ev_iload_4 (ev_dt dt_Lw_law_13 55 rfl) ?_
    refine ev_ic1 (ev_dt dt_Lw_law_13 56 rfl) ?_
    refine ev_addn (ev_dt dt_Lw_law_13 57 rfl) ?_
    refine ev_sld (ev_dt dt_Lw_law_13 58 rfl) hX hb (by omega) (by omega) ?_
    refine ev_aload_0 (ev_dt dt_Lw_law_13 59 rfl) ?_
    refine ev_iload_4 (ev_dt dt_Lw_law_14 0 rfl) ?_
    refine ev_ic2 (ev_dt dt_Lw_law_14 1 rfl) ?_
    refine ev_addn (ev_dt dt_Lw_law_14 2 rfl) ?_
    refine ev_sld (ev_dt dt_Lw_law_14 3 rfl) hX hb (by omega) (by omega) ?_
    refine ev_aload_0 (ev_dt dt_Lw_law_14 4 rfl) ?_
    refine ev_iload_4 (ev_dt dt_Lw_law_14 5 rfl) ?_
    refine ev_ic3 (ev_dt dt_Lw_law_14 6 rfl) ?_
    refine ev_addn (ev_dt dt_Lw_law_14 7 rfl) ?_
    refine ev_sld (ev_dt dt_Lw_law_14 8 rfl) hX hb (by omega) (by omega) ?_
    refine ev_callV (ev_dt dt_Lw_law_14 9 rfl) v_Lw_142_10 hM1.1 [.int (xs (5 * t + 1)), .int (xs (5 * t + 2)), .int (xs (5 * t + 3))] rfl np_Md_saved rfl (ev_lk_of (j := 5) rfl rfl) (r_saved (d := d + 55) (cc := fun s => qC (qs s)) (cn := cq) (co := oq) (th := fun s => qH (qs s)) (sv := fun s => decide (qN (qs s) ≠ 0)) (qi := fun s => qN (qs s) - 1) hM1 hS hnc (fun s hs' => (hR.2.2.2.2.2 s hs').1.1) (fun s hs' hq => by have h0 := of_decide_eq_true hq; have g := (hR.2.2.2.2.2 s hs'); exact ⟨(g.2 h0).2.1, (g.2 h0).1, by have := g.1.2.1; omega⟩) hm120 (sn := sn) (fun s hs' v hv => (hR.2.2.2.2.2 s hs').1.2.2.2.2.2 v hv) (fun g => False.elim (g.elim (fun g => g s hs' ex) (fun g => g.elim (fun g => g 0 (by omega) ey) (fun g => by obtain ⟨s3, hs3, es3, e0⟩ := g; obtain rfl : s = s3 := nI_inj (by omega) (by omega) ex es3; simp [hq] at e0)))) (fun s2 w hs2 ex2 hw2 ey2 hsv2 h2 A2 hA2 hM2 hf2 r' hr' => ev_r1 ?_))
    obtain rfl : s = s2 := nI_inj (by omega) (by omega) ex ex2
    obtain rfl : w = 0 := nI_inj (by omega) (by omega) ey2 ey
    have eN : qN (qs s) = nd + 1 := by rw [hq]
    obtain ⟨σ, w1, w2⟩ := hR.cur hs' hq hkU
    simp only [hq] at hr'
    obtain ⟨⟨-, -, -, -, -, -⟩, qb⟩ := hR.2.2.2.2.2 s hs'
    rw [hq] at qb
    obtain ⟨-, -, -, ⟨ρ, qe, qf⟩, -, -⟩ := qb (Nat.succ_ne_zero nd)
    have hrr : r = r' := sv_0 hm120 w1 w2 hpk hr'
    have hP2 := hP1.byRef hf2
    have ho2 := (hf2 (X + 107) (Or.inr (by omega))).trans ho1
    refine ev_icmp_eqT (tgt := 1484) (ev_dt dt_Lw_law_14 10 rfl) (by decide) hrr ?_
    refine ev_fg_5 (ev_fg_6 ?_)
    exact kk h2 _ _ _ (LI.mk hP2 hs hM2 ho2 ((kp_saved hR hs' hq w1 w2).scr (mA_scr hA2) rfl rfl rfl rfl) (by omega)) (by omega) (by omega)
  · have hM1 := hM.cF hf1
    have ho1 := (hf1 (X + 107) (by omega) (by omega)).trans ho
    refine ev_aload_2 (ev_dt dt_Lw_law_13 53 rfl) ?_
    refine ev_aload_0 (ev_dt dt_Lw_law_13 54 rfl) ?_
    refine ev_iload_4 (ev_dt dt_Lw_law_13 55 rfl) ?_
    refine ev_ic1 (ev_dt dt_Lw_law_13 56 rfl) ?_
    refine ev_addn (ev_dt dt_Lw_law_13 57 rfl) ?_
    refine ev_sld (ev_dt dt_Lw_law_13 58 rfl) hX hb (by omega) (by omega) ?_
    refine ev_aload_0 (ev_dt dt_Lw_law_13 59 rfl) ?_
    refine ev_iload_4 (ev_dt dt_Lw_law_14 0 rfl) ?_
    refine ev_ic2 (ev_dt dt_Lw_law_14 1 rfl) ?_
    refine ev_addn (ev_dt dt_Lw_law_14 2 rfl) ?_
    refine ev_sld (ev_dt dt_Lw_law_14 3 rfl) hX hb (by omega) (by omega) ?_
    refine ev_aload_0 (ev_dt dt_Lw_law_14 4 rfl) ?_
    refine ev_iload_4 (ev_dt dt_Lw_law_14 5 rfl) ?_
    refine ev_ic3 (ev_dt dt_Lw_law_14 6 rfl) ?_
    refine ev_addn (ev_dt dt_Lw_law_14 7 rfl) ?_
    refine ev_sld (ev_dt dt_Lw_law_14 8 rfl) hX hb (by omega) (by omega) ?_
    refine ev_callV (ev_dt dt_Lw_law_14 9 rfl) v_Lw_142_10 hM1.1 [.int (xs (5 * t + 1)), .int (xs (5 * t + 2)), .int (xs (5 * t + 3))] rfl np_Md_saved rfl (ev_lk_of (j := 5) rfl rfl) (r_saved (d := d + 55) (cc := fun s => qC (qs s)) (cn := cq) (co := oq) (th := fun s => qH (qs s)) (sv := fun s => decide (qN (qs s) ≠ 0)) (qi := fun s => qN (qs s) - 1) hM1 hS hnc (fun s hs' => (hR.2.2.2.2.2 s hs').1.1) (fun s hs' hq => by have h0 := of_decide_eq_true hq; have g := (hR.2.2.2.2.2 s hs'); exact ⟨(g.2 h0).2.1, (g.2 h0).1, by have := g.1.2.1; omega⟩) hm120 (sn := sn) (fun s hs' v hv => (hR.2.2.2.2.2 s hs').1.2.2.2.2.2 v hv) (fun g => False.elim (g.elim (fun g => g s hs' ex) (fun g => g.elim (fun g => g 1 (by omega) ey) (fun g => by obtain ⟨s3, hs3, es3, e0⟩ := g; obtain rfl : s = s3 := nI_inj (by omega) (by omega) ex es3; simp [hq] at e0)))) (fun s2 w hs2 ex2 hw2 ey2 hsv2 h2 A2 hA2 hM2 hf2 r' hr' => ev_r1 ?_))
    obtain rfl : s = s2 := nI_inj (by omega) (by omega) ex ex2
    obtain rfl : w = 1 := nI_inj (by omega) (by omega) ey2 ey
    have eN : qN (qs s) = nd + 1 := by rw [hq]
    obtain ⟨σ, w1, w2⟩ := hR.cur hs' hq hkU
    simp only [hq] at hr'
    obtain ⟨⟨-, -, -, -, -, -⟩, qb⟩ := hR.2.2.2.2.2 s hs'
    rw [hq] at qb
    obtain ⟨-, -, -, ⟨ρ, qe, qf⟩, -, -⟩ := qb (Nat.succ_ne_zero nd)
    have hrr : r = r' := sv_1 hm120 w1 w2 qe qf hpk hr'
    have hP2 := hP1.byRef hf2
    have ho2 := (hf2 (X + 107) (Or.inr (by omega))).trans ho1
    refine ev_icmp_eqT (tgt := 1484) (ev_dt dt_Lw_law_14 10 rfl) (by decide) hrr ?_
    refine ev_fg_5 (ev_fg_6 ?_)
    exact kk h2 _ _ _ (LI.mk hP2 hs hM2 ho2 ((kp_saved hR hs' hq w1 w2).scr (mA_scr hA2) rfl rfl rfl rfl) (by omega)) (by omega) (by omega)
  · have hM1 := hM.cF hf1
    have ho1 := (hf1 (X + 107) (by omega) (by omega)).trans ho
    refine ev_aload_2 (ev_dt dt_Lw_law_13 53 rfl) ?_
    refine ev_aload_0 (ev_dt dt_Lw_law_13 54 rfl) ?_
    refine ev_iload_4 (ev_dt dt_Lw_law_13 55 rfl) ?_
    refine ev_ic1 (ev_dt dt_Lw_law_13 56 rfl) ?_
    refine ev_addn (ev_dt dt_Lw_law_13 57 rfl) ?_
    refine ev_sld (ev_dt dt_Lw_law_13 58 rfl) hX hb (by omega) (by omega) ?_
    refine ev_aload_0 (ev_dt dt_Lw_law_13 59 rfl) ?_
    refine ev_iload_4 (ev_dt dt_Lw_law_14 0 rfl) ?_
    refine ev_ic2 (ev_dt dt_Lw_law_14 1 rfl) ?_
    refine ev_addn (ev_dt dt_Lw_law_14 2 rfl) ?_
    refine ev_sld (ev_dt dt_Lw_law_14 3 rfl) hX hb (by omega) (by omega) ?_
    refine ev_aload_0 (ev_dt dt_Lw_law_14 4 rfl) ?_
    refine ev_iload_4 (ev_dt dt_Lw_law_14 5 rfl) ?_
    refine ev_ic3 (ev_dt dt_Lw_law_14 6 rfl) ?_
    refine ev_addn (ev_dt dt_Lw_law_14 7 rfl) ?_
    refine ev_sld (ev_dt dt_Lw_law_14 8 rfl) hX hb (by omega) (by omega) ?_
    refine ev_callV (ev_dt dt_Lw_law_14 9 rfl) v_Lw_142_10 hM1.1 [.int (xs (5 * t + 1)), .int (xs (5 * t + 2)), .int (xs (5 * t + 3))] rfl np_Md_saved rfl (ev_lk_of (j := 5) rfl rfl) (r_saved (d := d + 55) (cc := fun s => qC (qs s)) (cn := cq) (co := oq) (th := fun s => qH (qs s)) (sv := fun s => decide (qN (qs s) ≠ 0)) (qi := fun s => qN (qs s) - 1) hM1 hS hnc (fun s hs' => (hR.2.2.2.2.2 s hs').1.1) (fun s hs' hq => by have h0 := of_decide_eq_true hq; have g := (hR.2.2.2.2.2 s hs'); exact ⟨(g.2 h0).2.1, (g.2 h0).1, by have := g.1.2.1; omega⟩) hm120 (sn := sn) (fun s hs' v hv => (hR.2.2.2.2.2 s hs').1.2.2.2.2.2 v hv) (fun g => False.elim (g.elim (fun g => g s hs' ex) (fun g => g.elim (fun g => g 2 (by omega) ey) (fun g => by obtain ⟨s3, hs3, es3, e0⟩ := g; obtain rfl : s = s3 := nI_inj (by omega) (by omega) ex es3; simp [hq] at e0)))) (fun s2 w hs2 ex2 hw2 ey2 hsv2 h2 A2 hA2 hM2 hf2 r' hr' => ev_r1 ?_))
    obtain rfl : s = s2 := nI_inj (by omega) (by omega) ex ex2
    obtain rfl : w = 2 := nI_inj (by omega) (by omega) ey2 ey
    have eN : qN (qs s) = nd + 1 := by rw [hq]
    obtain ⟨σ, w1, w2⟩ := hR.cur hs' hq hkU
    simp only [hq] at hr'
    obtain ⟨⟨-, -, -, -, -, -⟩, qb⟩ := hR.2.2.2.2.2 s hs'
    rw [hq] at qb
    obtain ⟨-, -, -, ⟨ρ, qe, qf⟩, -, -⟩ := qb (Nat.succ_ne_zero nd)
    have hrr : r = r' := sv_2 hm120 w1 w2 qe qf hpk hr'
    have hP2 := hP1.byRef hf2
    have ho2 := (hf2 (X + 107) (Or.inr (by omega))).trans ho1
    refine ev_icmp_eqT (tgt := 1484) (ev_dt dt_Lw_law_14 10 rfl) (by decide) hrr ?_
    refine ev_fg_5 (ev_fg_6 ?_)
    exact kk h2 _ _ _ (LI.mk hP2 hs hM2 ho2 ((kp_saved hR hs' hq w1 w2).scr (mA_scr hA2) rfl rfl rfl rfl) (by omega)) (by omega) (by omega)
  · have hM1 := hM.cF hf1
    have ho1 := (hf1 (X + 107) (by omega) (by omega)).trans ho
    refine ev_aload_2 (ev_dt dt_Lw_law_13 53 rfl) ?_
    refine ev_aload_0 (ev_dt dt_Lw_law_13 54 rfl) ?_
    refine ev_iload_4 (ev_dt dt_Lw_law_13 55 rfl) ?_
    refine ev_ic1 (ev_dt dt_Lw_law_13 56 rfl) ?_
    refine ev_addn (ev_dt dt_Lw_law_13 57 rfl) ?_
    refine ev_sld (ev_dt dt_Lw_law_13 58 rfl) hX hb (by omega) (by omega) ?_
    refine ev_aload_0 (ev_dt dt_Lw_law_13 59 rfl) ?_
    refine ev_iload_4 (ev_dt dt_Lw_law_14 0 rfl) ?_
    refine ev_ic2 (ev_dt dt_Lw_law_14 1 rfl) ?_
    refine ev_addn (ev_dt dt_Lw_law_14 2 rfl) ?_
    refine ev_sld (ev_dt dt_Lw_law_14 3 rfl) hX hb (by omega) (by omega) ?_
    refine ev_aload_0 (ev_dt dt_Lw_law_14 4 rfl) ?_
    refine ev_iload_4 (ev_dt dt_Lw_law_14 5 rfl) ?_
    refine ev_ic3 (ev_dt dt_Lw_law_14 6 rfl) ?_
    refine ev_addn (ev_dt dt_Lw_law_14 7 rfl) ?_
    refine ev_sld (ev_dt dt_Lw_law_14 8 rfl) hX hb (by omega) (by omega) ?_
    refine ev_callV (ev_dt dt_Lw_law_14 9 rfl) v_Lw_142_10 hM1.1 [.int (xs (5 * t + 1)), .int (xs (5 * t + 2)), .int (xs (5 * t + 3))] rfl np_Md_saved rfl (ev_lk_of (j := 5) rfl rfl) (r_saved (d := d + 55) (cc := fun s => qC (qs s)) (cn := cq) (co := oq) (th := fun s => qH (qs s)) (sv := fun s => decide (qN (qs s) ≠ 0)) (qi := fun s => qN (qs s) - 1) hM1 hS hnc (fun s hs' => (hR.2.2.2.2.2 s hs').1.1) (fun s hs' hq => by have h0 := of_decide_eq_true hq; have g := (hR.2.2.2.2.2 s hs'); exact ⟨(g.2 h0).2.1, (g.2 h0).1, by have := g.1.2.1; omega⟩) hm120 (sn := sn) (fun s hs' v hv => (hR.2.2.2.2.2 s hs').1.2.2.2.2.2 v hv) (fun _ h2 hM2 hf2 => ev_r1 ?_) (fun s2 w hs2 ex2 hw2 ey2 hsv2 => False.elim (by rcases (show w = 0 ∨ w = 1 ∨ w = 2 by omega) with rfl | rfl | rfl <;> first | exact y0 ey2 | exact y1 ey2 | exact y2 ey2)))
    obtain ⟨σ, w1, w2⟩ := hR.cur hs' hq hkU
    have hP2 := hP1.byRef hf2
    have ho2 := (hf2 (X + 107) (Or.inr (by omega))).trans ho1
    refine ev_icmp_eqT (tgt := 1484) (ev_dt dt_Lw_law_14 10 rfl) (by decide) rfl ?_
    refine ev_fg_5 (ev_fg_6 ?_)
    exact kk h2 _ _ _ (LI.mk hP2 hs hM2 ho2 (kp_saved hR hs' hq w1 w2).thr (by omega)) (by omega) (by omega)
theorem c_read {E : ev_E} {X b L t tt d k n sz : Nat} {xs : Nat → Int32} {h : ev_h} {Q : ev_Q} (hE : ev_nok E) (hX : va_X b L xs E.2.2.2.1 E.2.2.2.1.heap) (hb : b < ev_b E) (hL : L ≤ 2560) (ht : 5 * t + 5 ≤ L) (htt : tt ≤ 50000) (hI : LI E X tt h sz) (kk : ∀ h' sz' k' n', LI E X (tt + 1) h' sz' → k ≤ k' → n ≤ n' → Ev E m_Lw_law (d + 62) 1484 [some (.ref b), some (.ref X), some (.ref (X + 78)), some (.ref (X + 107)), some (.int (nI (5 * t))), none, none] [] h' sz' k' n' Q) : Ev E m_Lw_law (d + 62) 1347 [some (.ref b), some (.ref X), some (.ref (X + 78)), some (.ref (X + 107)), some (.int (nI (5 * t))), none, none] [] h sz (k + 3) (n + 27) Q := by
  obtain ⟨nc, al, fl, c, mr, cc, ac, nu, on, op, th, af, ff, V, qs, N, ed, zs, cs, ad, F, A, T, π, cn, co, cq, oq, sn, o, hP, hs, hM, ho, hR, hal⟩ := hI
  obtain rfl : F 1 = mr := hR.1.1
  obtain rfl : F 2 = nc := hR.2.1.1
  obtain rfl : F 3 = ac := hR.2.2.2.1.1
  obtain rfl : F 5 = fl := hR.2.2.2.2.1.1
  have hcn : cnt T (F 1) = c := en_total hR.1.2.2.2.2.1
  have hc24 : c ≤ 24 := hR.1.2.2.1
  have hm120 : F 1 ≤ 120 := hR.1.2.1
  have hnc : F 2 ≤ 24 := hR.2.1.2.1
  have hT := hR.1.2.2.2.1
  have hS := hR.2.1.2.2.1
  have hok := hR.2.1.2.2.2.1
  have hZ := hR.2.1.2.2.2.2.1
  have hC := hR.2.2.1.1
  have hcc : cc ≤ 4 := hC.2.2.2.1
  have hon : ∀ i, i < cc → on i = nI (cn i) ∧ cn i < 4 := fun i hi => ⟨(hR.2.2.1.2 i hi).1, (hC.2.2.2.2 i hi).2.1⟩
  have hop : ∀ i, i < cc → op i = nI (co i) ∧ co i < 6 := fun i hi => ⟨(hR.2.2.1.2 i hi).2, (hC.2.2.2.2 i hi).2.2.2.1⟩
  have hps : ∀ i, i < c → ((fun j => okb cn co th (V j) cc) i = true ↔ okC cc cn co th (V i)) := fun i _ => okb_iff cc
  have hqn : ∀ s, s < 4 → (qs s).1 ≤ F 2 := fun s hs => (hR.2.2.2.2.2 s hs).1.2.1
  have hp24 := rw_24 (qc := cc) (a := cn) (b := co) (t := th) hR.1
  have hokT := hR.2.1.okT
  refine ev_aload_1 (ev_dt dt_Lw_law_14 13 rfl) ?_
  refine ev_aload_0 (ev_dt dt_Lw_law_14 14 rfl) ?_
  refine ev_iload_4 (ev_dt dt_Lw_law_14 15 rfl) ?_
  refine ev_ic1 (ev_dt dt_Lw_law_14 16 rfl) ?_
  refine ev_addn (ev_dt dt_Lw_law_14 17 rfl) ?_
  refine ev_sld (ev_dt dt_Lw_law_14 18 rfl) hX hb (by omega) (by omega) ?_
  refine ev_callV (ev_dt dt_Lw_law_14 19 rfl) v_Lw_143_0 hP.1 [.int (xs (5 * t + 1))] rfl np_PT_read rfl (ev_lk_of (j := 0) rfl rfl) (t_PT_read (d := d + 1) (cn := cq) (co := oq) (ps := fun s i => okb (cq s) (oq s) (qH (qs s)) (V i) (qC (qs s))) hc24 (show al ≤ 60000 by omega) hnc hok (hR.hqs (by omega)) hP (fun hx => ev_r1 ?_) (fun s nd qc qon qop qth c1 f1 c2 f2 se hs' ex hq h1 c1' f1' f2' hkU hf2' hP1 hf1 => ev_r1 ?_))
  · refine ev_aload_2 (ev_dt dt_Lw_law_14 20 rfl) ?_
    refine ev_aload_0 (ev_dt dt_Lw_law_14 21 rfl) ?_
    refine ev_iload_4 (ev_dt dt_Lw_law_14 22 rfl) ?_
    refine ev_ic1 (ev_dt dt_Lw_law_14 23 rfl) ?_
    refine ev_addn (ev_dt dt_Lw_law_14 24 rfl) ?_
    refine ev_sld (ev_dt dt_Lw_law_14 25 rfl) hX hb (by omega) (by omega) ?_
    refine ev_callV (ev_dt dt_Lw_law_14 26 rfl) v_Lw_146_10 hM.1 [.int (xs (5 * t + 1))] rfl np_Md_read rfl (ev_lk_of (j := 1) rfl rfl) (r_read (d := d + 55) (cc := fun s => qC (qs s)) (cn := cq) (co := oq) (th := fun s => qH (qs s)) (sv := fun s => decide (qN (qs s) ≠ 0)) (qi := fun s => qN (qs s) - 1) hM hS hnc (fun s hs' => (hR.2.2.2.2.2 s hs').1.1) (fun s hs' hq => by have h0 := of_decide_eq_true hq; have g := (hR.2.2.2.2.2 s hs'); exact ⟨(g.2 h0).2.1, (g.2 h0).1, by have := g.1.2.1; omega⟩) hm120 (fun _ h2 hM2 hf2 => ev_r1 ?_) (fun s2 hs2 ex2 hsv2 => False.elim (hx.elim (fun g => g s2 hs2 ex2) (fun g => by obtain ⟨s', hs3, es3, e0⟩ := g; obtain rfl : s' = s2 := nI_inj (by omega) (by omega) es3 ex2; exact of_decide_eq_true hsv2 e0))))
    have hP2 := hP.byRef hf2
    have ho2 := (hf2 (X + 107) (Or.inr (by omega))).trans ho
    refine ev_icmp_eqT (tgt := 1484) (ev_dt dt_Lw_law_14 27 rfl) (by decide) rfl ?_
    refine ev_fg_5 (ev_fg_6 ?_)
    exact kk h2 _ _ _ (LI.mk hP2 hs hM2 ho2 hR.thr (by omega)) (by omega) (by omega)
  · have hM1 := hM.cF hf1
    have ho1 := (hf1 (X + 107) (by omega) (by omega)).trans ho
    refine ev_aload_2 (ev_dt dt_Lw_law_14 20 rfl) ?_
    refine ev_aload_0 (ev_dt dt_Lw_law_14 21 rfl) ?_
    refine ev_iload_4 (ev_dt dt_Lw_law_14 22 rfl) ?_
    refine ev_ic1 (ev_dt dt_Lw_law_14 23 rfl) ?_
    refine ev_addn (ev_dt dt_Lw_law_14 24 rfl) ?_
    refine ev_sld (ev_dt dt_Lw_law_14 25 rfl) hX hb (by omega) (by omega) ?_
    refine ev_callV (ev_dt dt_Lw_law_14 26 rfl) v_Lw_146_10 hM1.1 [.int (xs (5 * t + 1))] rfl np_Md_read rfl (ev_lk_of (j := 1) rfl rfl) (r_read (d := d + 55) (cc := fun s => qC (qs s)) (cn := cq) (co := oq) (th := fun s => qH (qs s)) (sv := fun s => decide (qN (qs s) ≠ 0)) (qi := fun s => qN (qs s) - 1) hM1 hS hnc (fun s hs' => (hR.2.2.2.2.2 s hs').1.1) (fun s hs' hq => by have h0 := of_decide_eq_true hq; have g := (hR.2.2.2.2.2 s hs'); exact ⟨(g.2 h0).2.1, (g.2 h0).1, by have := g.1.2.1; omega⟩) hm120 (fun g => False.elim (g.elim (fun g => g s hs' ex) (fun g => by obtain ⟨s3, hs3, es3, e0⟩ := g; obtain rfl : s = s3 := nI_inj (by omega) (by omega) ex es3; rw [hq] at e0; exact absurd e0 (by simp)))) (fun s2 hs2 ex2 hsv2 h2 A2 hA2 h16 h16' hM2 hf2 => ev_r1 ?_))
    obtain rfl : s = s2 := nI_inj (by omega) (by omega) ex ex2
    obtain ⟨σ, w1, w2⟩ := hR.cur hs' hq hkU
    simp only [hq] at h16
    have hP2 := hP1.byRef hf2
    have ho2 := (hf2 (X + 107) (Or.inr (by omega))).trans ho1
    refine ev_icmp_eqT (tgt := 1484) (ev_dt dt_Lw_law_14 27 rfl) (by decide) rfl ?_
    refine ev_fg_5 (ev_fg_6 ?_)
    exact kk h2 _ _ _ (LI.mk hP2 hs hM2 ho2 (kp_read hR hs' hq w1 w2 hf2' hA2 h16 h16') (by omega)) (by omega) (by omega)
theorem c_reduce {E : ev_E} {X b L t tt d k n sz : Nat} {xs : Nat → Int32} {h : ev_h} {Q : ev_Q} (hE : ev_nok E) (hX : va_X b L xs E.2.2.2.1 E.2.2.2.1.heap) (hb : b < ev_b E) (hL : L ≤ 2560) (ht : 5 * t + 5 ≤ L) (htt : tt ≤ 50000) (hI : LI E X tt h sz) (kk : ∀ h' sz' k' n', LI E X (tt + 1) h' sz' → k ≤ k' → n ≤ n' → Ev E m_Lw_law (d + 62) 1484 [some (.ref b), some (.ref X), some (.ref (X + 78)), some (.ref (X + 107)), some (.int (nI (5 * t))), none, none] [] h' sz' k' n' Q) : Ev E m_Lw_law (d + 62) 1372 [some (.ref b), some (.ref X), some (.ref (X + 78)), some (.ref (X + 107)), some (.int (nI (5 * t))), none, none] [] h sz (k + 3) (n + 27) Q := by
  obtain ⟨nc, al, fl, c, mr, cc, ac, nu, on, op, th, af, ff, V, qs, N, ed, zs, cs, ad, F, A, T, π, cn, co, cq, oq, sn, o, hP, hs, hM, ho, hR, hal⟩ := hI
  obtain rfl : F 1 = mr := hR.1.1
  obtain rfl : F 2 = nc := hR.2.1.1
  obtain rfl : F 3 = ac := hR.2.2.2.1.1
  obtain rfl : F 5 = fl := hR.2.2.2.2.1.1
  have hcn : cnt T (F 1) = c := en_total hR.1.2.2.2.2.1
  have hc24 : c ≤ 24 := hR.1.2.2.1
  have hm120 : F 1 ≤ 120 := hR.1.2.1
  have hnc : F 2 ≤ 24 := hR.2.1.2.1
  have hT := hR.1.2.2.2.1
  have hS := hR.2.1.2.2.1
  have hok := hR.2.1.2.2.2.1
  have hZ := hR.2.1.2.2.2.2.1
  have hC := hR.2.2.1.1
  have hcc : cc ≤ 4 := hC.2.2.2.1
  have hon : ∀ i, i < cc → on i = nI (cn i) ∧ cn i < 4 := fun i hi => ⟨(hR.2.2.1.2 i hi).1, (hC.2.2.2.2 i hi).2.1⟩
  have hop : ∀ i, i < cc → op i = nI (co i) ∧ co i < 6 := fun i hi => ⟨(hR.2.2.1.2 i hi).2, (hC.2.2.2.2 i hi).2.2.2.1⟩
  have hps : ∀ i, i < c → ((fun j => okb cn co th (V j) cc) i = true ↔ okC cc cn co th (V i)) := fun i _ => okb_iff cc
  have hqn : ∀ s, s < 4 → (qs s).1 ≤ F 2 := fun s hs => (hR.2.2.2.2.2 s hs).1.2.1
  have hp24 := rw_24 (qc := cc) (a := cn) (b := co) (t := th) hR.1
  have hokT := hR.2.1.okT
  refine ev_aload_1 (ev_dt dt_Lw_law_14 30 rfl) ?_
  refine ev_aload_0 (ev_dt dt_Lw_law_14 31 rfl) ?_
  refine ev_iload_4 (ev_dt dt_Lw_law_14 32 rfl) ?_
  refine ev_ic1 (ev_dt dt_Lw_law_14 33 rfl) ?_
  refine ev_addn (ev_dt dt_Lw_law_14 34 rfl) ?_
  refine ev_sld (ev_dt dt_Lw_law_14 35 rfl) hX hb (by omega) (by omega) ?_
  refine ev_aload_3 (ev_dt dt_Lw_law_14 36 rfl) ?_
  refine ev_callS (ev_dt dt_Lw_law_14 37 rfl) s_Lw_147 [.ref X, .int (xs (5 * t + 1)), .ref (X + 107)] rfl np_Lw_reduce rfl (ev_lk_of (j := 1) rfl rfl) ?_
  refine ev_aload_2 (ev_dt dt_Lw_reduce_0 0 rfl) ?_
  refine ev_ic0 (ev_dt dt_Lw_reduce_0 1 rfl) ?_
  refine ev_aload_0 (ev_dt dt_Lw_reduce_0 2 rfl) ?_
  refine ev_iload_1 (ev_dt dt_Lw_reduce_0 3 rfl) ?_
  refine ev_callV (ev_dt dt_Lw_reduce_0 4 rfl) v_Lw_59_0 hP.1 [.int (xs (5 * t + 1))] rfl np_PT_reduce rfl (ev_lk_of (j := 0) rfl rfl) (t_PT_reduce (d := d) hnc hZ hs hP (fun hx h1 hP1 hs1 hf1 he1 => ev_rt ?_) (fun i hi ex h1 ff' hsg hP1 hf1 => ev_r1 ?_))
  · have hM1 := hM.cF hf1
    have ho1 := (hf1 (X + 107) (by omega) (by omega)).trans ho
    refine ev_catch1 rfl rfl (by decide) wl_19 rfl wc_13 he1 ?_
    refine ev_astore_3 (ev_dt dt_Lw_reduce_0 8 rfl) (by decide) rfl ?_
    refine ev_ic1 (ev_dt dt_Lw_reduce_0 9 rfl) ?_
    refine ev_ireturn (ev_dt dt_Lw_reduce_0 10 rfl) rfl rfl (ev_r1 ?_)
    refine ev_istore_5 (ev_dt dt_Lw_law_14 38 rfl) (by decide) rfl ?_
    refine ev_aload_2 (ev_dt dt_Lw_law_14 39 rfl) ?_
    refine ev_aload_0 (ev_dt dt_Lw_law_14 40 rfl) ?_
    refine ev_iload_4 (ev_dt dt_Lw_law_14 41 rfl) ?_
    refine ev_ic1 (ev_dt dt_Lw_law_14 42 rfl) ?_
    refine ev_addn (ev_dt dt_Lw_law_14 43 rfl) ?_
    refine ev_sld (ev_dt dt_Lw_law_14 44 rfl) hX hb (by omega) (by omega) ?_
    refine ev_callV (ev_dt dt_Lw_law_14 45 rfl) v_Lw_149_10 hM1.1 [.int (xs (5 * t + 1))] rfl np_Md_reduce rfl (ev_lk_of (j := 1) rfl rfl) (r_reduce (d := d + 58) (cs := cs) hM1 hS hnc rfl hR.2.1.2.2.2.2.2 (fun i hi => by have := (gf_rf (cs := cs) hZ (fun n hn => (hS.1 n hn).2.1) (fun n hn q => hok.2 n hn q) i hi).2; have := (hZ i hi).1; omega) (fun _ h2 hM2 hf2 => ev_r1 ?_) (fun i hi ex => False.elim (hx i hi ex)))
    have hP2 := hP1.byRef hf2
    have ho2 := (hf2 (X + 107) (Or.inr (by omega))).trans ho1
    refine ev_istore_6 (ev_dt dt_Lw_law_14 46 rfl) (by decide) rfl ?_
    refine ev_aload_2 (ev_dt dt_Lw_law_14 47 rfl) ?_
    refine ev_callV (ev_dt dt_Lw_law_14 48 rfl) v_Lw_75_10 hM2.1 [] rfl np_Md_thrown rfl (ev_lk_of (j := 0) rfl rfl) (r_thrown hM2 (ev_r1 ?_))
    refine ev_iload_5 (ev_dt dt_Lw_law_14 49 rfl) ?_
    refine ev_icmp_eqT (tgt := 1408) (ev_dt dt_Lw_law_14 50 rfl) (by decide) rfl ?_
    refine ev_iload_5 (ev_dt dt_Lw_law_14 53 rfl) ?_
    refine ev_if_neT (tgt := 1425) (ev_dt dt_Lw_law_14 54 rfl) (by decide) (by decide +kernel) ?_
    refine ev_goto (tgt := 1484) (ev_dt dt_Lw_law_15 4 rfl) (by decide) ?_
    refine ev_fg_5 (ev_fg_6 ?_)
    exact kk h2 _ _ _ (LI.mk hP2 hs1 hM2 ho2 hR.thr (by omega)) (by omega) (by omega)
  · have hM1 := hM.cF hf1
    have ho1 := (hf1 (X + 107) (by omega) (by omega)).trans ho
    refine ev_i2l (ev_dt dt_Lw_reduce_0 5 rfl) rfl ?_
    refine ev_outS (ev_dt dt_Lw_reduce_0 6 rfl) hP1 hM1 ho1 (fun h3 o3 hP3 hM3 ho3 hov3 => ?_)
    refine ev_goto (tgt := 15) (ev_dt dt_Lw_reduce_0 7 rfl) (by decide) ?_
    refine ev_ic0 (ev_dt dt_Lw_reduce_0 11 rfl) ?_
    refine ev_ireturn (ev_dt dt_Lw_reduce_0 12 rfl) rfl rfl (ev_r1 ?_)
    refine ev_istore_5 (ev_dt dt_Lw_law_14 38 rfl) (by decide) rfl ?_
    refine ev_aload_2 (ev_dt dt_Lw_law_14 39 rfl) ?_
    refine ev_aload_0 (ev_dt dt_Lw_law_14 40 rfl) ?_
    refine ev_iload_4 (ev_dt dt_Lw_law_14 41 rfl) ?_
    refine ev_ic1 (ev_dt dt_Lw_law_14 42 rfl) ?_
    refine ev_addn (ev_dt dt_Lw_law_14 43 rfl) ?_
    refine ev_sld (ev_dt dt_Lw_law_14 44 rfl) hX hb (by omega) (by omega) ?_
    refine ev_callV (ev_dt dt_Lw_law_14 45 rfl) v_Lw_149_10 hM3.1 [.int (xs (5 * t + 1))] rfl np_Md_reduce rfl (ev_lk_of (j := 1) rfl rfl) (r_reduce (d := d + 58) (cs := cs) hM3 hS hnc rfl hR.2.1.2.2.2.2.2 (fun i hi => by have := (gf_rf (cs := cs) hZ (fun n hn => (hS.1 n hn).2.1) (fun n hn q => hok.2 n hn q) i hi).2; have := (hZ i hi).1; omega) (fun g => False.elim (g i hi ex)) (fun i2 hi2 ex2 h2 A2 mm hA2 hsg2 hM2 hf2 => ev_r1 ?_))
    obtain rfl : i = i2 := nI_inj (by omega) (by omega) ex ex2
    have hP2 := hP3.byRef hf2
    have ho2 := (hf2 (X + 107) (Or.inr (by omega))).trans ho3
    refine ev_istore_6 (ev_dt dt_Lw_law_14 46 rfl) (by decide) rfl ?_
    refine ev_aload_2 (ev_dt dt_Lw_law_14 47 rfl) ?_
    refine ev_callV (ev_dt dt_Lw_law_14 48 rfl) v_Lw_75_10 hM2.1 [] rfl np_Md_thrown rfl (ev_lk_of (j := 0) rfl rfl) (r_thrown hM2 (ev_r1 ?_))
    refine ev_iload_5 (ev_dt dt_Lw_law_14 49 rfl) ?_
    refine ev_icmp_eqT (tgt := 1408) (ev_dt dt_Lw_law_14 50 rfl) (by decide) rfl ?_
    refine ev_iload_5 (ev_dt dt_Lw_law_14 53 rfl) ?_
    refine ev_if_neF (tgt := 1425) (ev_dt dt_Lw_law_14 54 rfl) (by decide) z00 ?_
    refine ev_aload_3 (ev_dt dt_Lw_law_14 55 rfl) ?_
    refine ev_ic0 (ev_dt dt_Lw_law_14 56 rfl) ?_
    refine ev_lald (ev_dt dt_Lw_law_14 57 rfl) ho2 (by omega) (by decide) hov3 ?_
    refine ev_iload_6 (ev_dt dt_Lw_law_14 58 rfl) ?_
    refine ev_i2l (ev_dt dt_Lw_law_14 59 rfl) rfl ?_
    refine ev_lcmp (ev_dt dt_Lw_law_15 0 rfl) ?_
    refine ev_if_eqT (tgt := 1425) (ev_dt dt_Lw_law_15 1 rfl) (by decide) (lgc rfl) ?_
    refine ev_goto (tgt := 1484) (ev_dt dt_Lw_law_15 4 rfl) (by decide) ?_
    refine ev_fg_5 (ev_fg_6 ?_)
    exact kk h2 _ _ _ (LI.mk hP2 hs hM2 ho2 (hR.frm hA2 (li_form hR hi hsg hsg2) rfl rfl rfl) (by omega)) (by omega) (by omega)
theorem c_form {E : ev_E} {X b L t tt d k n sz : Nat} {xs : Nat → Int32} {h : ev_h} {Q : ev_Q} (hE : ev_nok E) (hX : va_X b L xs E.2.2.2.1 E.2.2.2.1.heap) (hb : b < ev_b E) (hL : L ≤ 2560) (ht : 5 * t + 5 ≤ L) (htt : tt ≤ 50000) (hI : LI E X tt h sz) (kk : ∀ h' sz' k' n', LI E X (tt + 1) h' sz' → k ≤ k' → n ≤ n' → Ev E m_Lw_law (d + 62) 1484 [some (.ref b), some (.ref X), some (.ref (X + 78)), some (.ref (X + 107)), some (.int (nI (5 * t))), none, none] [] h' sz' k' n' Q) : Ev E m_Lw_law (d + 62) 1428 [some (.ref b), some (.ref X), some (.ref (X + 78)), some (.ref (X + 107)), some (.int (nI (5 * t))), none, none] [] h sz (k + 3) (n + 27) Q := by
  obtain ⟨nc, al, fl, c, mr, cc, ac, nu, on, op, th, af, ff, V, qs, N, ed, zs, cs, ad, F, A, T, π, cn, co, cq, oq, sn, o, hP, hs, hM, ho, hR, hal⟩ := hI
  obtain rfl : F 1 = mr := hR.1.1
  obtain rfl : F 2 = nc := hR.2.1.1
  obtain rfl : F 3 = ac := hR.2.2.2.1.1
  obtain rfl : F 5 = fl := hR.2.2.2.2.1.1
  have hcn : cnt T (F 1) = c := en_total hR.1.2.2.2.2.1
  have hc24 : c ≤ 24 := hR.1.2.2.1
  have hm120 : F 1 ≤ 120 := hR.1.2.1
  have hnc : F 2 ≤ 24 := hR.2.1.2.1
  have hT := hR.1.2.2.2.1
  have hS := hR.2.1.2.2.1
  have hok := hR.2.1.2.2.2.1
  have hZ := hR.2.1.2.2.2.2.1
  have hC := hR.2.2.1.1
  have hcc : cc ≤ 4 := hC.2.2.2.1
  have hon : ∀ i, i < cc → on i = nI (cn i) ∧ cn i < 4 := fun i hi => ⟨(hR.2.2.1.2 i hi).1, (hC.2.2.2.2 i hi).2.1⟩
  have hop : ∀ i, i < cc → op i = nI (co i) ∧ co i < 6 := fun i hi => ⟨(hR.2.2.1.2 i hi).2, (hC.2.2.2.2 i hi).2.2.2.1⟩
  have hps : ∀ i, i < c → ((fun j => okb cn co th (V j) cc) i = true ↔ okC cc cn co th (V i)) := fun i _ => okb_iff cc
  have hqn : ∀ s, s < 4 → (qs s).1 ≤ F 2 := fun s hs => (hR.2.2.2.2.2 s hs).1.2.1
  have hp24 := rw_24 (qc := cc) (a := cn) (b := co) (t := th) hR.1
  have hokT := hR.2.1.okT
  refine ev_aload_1 (ev_dt dt_Lw_law_15 5 rfl) ?_
  refine ev_aload_0 (ev_dt dt_Lw_law_15 6 rfl) ?_
  refine ev_iload_4 (ev_dt dt_Lw_law_15 7 rfl) ?_
  refine ev_ic1 (ev_dt dt_Lw_law_15 8 rfl) ?_
  refine ev_addn (ev_dt dt_Lw_law_15 9 rfl) ?_
  refine ev_sld (ev_dt dt_Lw_law_15 10 rfl) hX hb (by omega) (by omega) ?_
  refine ev_aload_3 (ev_dt dt_Lw_law_15 11 rfl) ?_
  refine ev_callS (ev_dt dt_Lw_law_15 12 rfl) s_Lw_150 [.ref X, .int (xs (5 * t + 1)), .ref (X + 107)] rfl np_Lw_form rfl (ev_lk_of (j := 1) rfl rfl) ?_
  refine ev_aload_2 (ev_dt dt_Lw_form_0 0 rfl) ?_
  refine ev_ic0 (ev_dt dt_Lw_form_0 1 rfl) ?_
  refine ev_aload_0 (ev_dt dt_Lw_form_0 2 rfl) ?_
  refine ev_iload_1 (ev_dt dt_Lw_form_0 3 rfl) ?_
  refine ev_callV (ev_dt dt_Lw_form_0 4 rfl) v_Lw_62_0 hP.1 [.int (xs (5 * t + 1))] rfl np_PT_form rfl (ev_lk_of (j := 0) rfl rfl) (t_PT_form (d := d) hR.2.2.2.2.1.2.1 hs hP (fun hx h1 hP1 hs1 hf1 he1 => ev_rt ?_) (fun j hj ex => ev_r1 ?_))
  · have hM1 := hM.cF hf1
    have ho1 := (hf1 (X + 107) (by omega) (by omega)).trans ho
    refine ev_catch1 rfl rfl (by decide) wl_19 rfl wc_13 he1 ?_
    refine ev_astore_3 (ev_dt dt_Lw_form_0 8 rfl) (by decide) rfl ?_
    refine ev_ic1 (ev_dt dt_Lw_form_0 9 rfl) ?_
    refine ev_ireturn (ev_dt dt_Lw_form_0 10 rfl) rfl rfl (ev_r1 ?_)
    refine ev_istore_5 (ev_dt dt_Lw_law_15 13 rfl) (by decide) rfl ?_
    refine ev_aload_2 (ev_dt dt_Lw_law_15 14 rfl) ?_
    refine ev_aload_0 (ev_dt dt_Lw_law_15 15 rfl) ?_
    refine ev_iload_4 (ev_dt dt_Lw_law_15 16 rfl) ?_
    refine ev_ic1 (ev_dt dt_Lw_law_15 17 rfl) ?_
    refine ev_addn (ev_dt dt_Lw_law_15 18 rfl) ?_
    refine ev_sld (ev_dt dt_Lw_law_15 19 rfl) hX hb (by omega) (by omega) ?_
    refine ev_callV (ev_dt dt_Lw_law_15 20 rfl) v_Lw_152_10 hM1.1 [.int (xs (5 * t + 1))] rfl np_Md_form rfl (ev_lk_of (j := 0) rfl rfl) (r_form hM1 hR.2.2.2.2.1.2.1 (fun _ h2 hM2 hf2 => ev_r1 ?_) (fun j hj ex => False.elim (hx j hj ex)))
    have hP2 := hP1.byRef hf2
    have ho2 := (hf2 (X + 107) (Or.inr (by omega))).trans ho1
    refine ev_istore_6 (ev_dt dt_Lw_law_15 21 rfl) (by decide) rfl ?_
    refine ev_aload_2 (ev_dt dt_Lw_law_15 22 rfl) ?_
    refine ev_callV (ev_dt dt_Lw_law_15 23 rfl) v_Lw_75_10 hM2.1 [] rfl np_Md_thrown rfl (ev_lk_of (j := 0) rfl rfl) (r_thrown hM2 (ev_r1 ?_))
    refine ev_iload_5 (ev_dt dt_Lw_law_15 24 rfl) ?_
    refine ev_icmp_eqT (tgt := 1464) (ev_dt dt_Lw_law_15 25 rfl) (by decide) rfl ?_
    refine ev_iload_5 (ev_dt dt_Lw_law_15 28 rfl) ?_
    refine ev_if_neT (tgt := 1481) (ev_dt dt_Lw_law_15 29 rfl) (by decide) (by decide +kernel) ?_
    refine ev_goto (tgt := 1484) (ev_dt dt_Lw_law_15 39 rfl) (by decide) ?_
    refine ev_fg_5 (ev_fg_6 ?_)
    exact kk h2 _ _ _ (LI.mk hP2 hs1 hM2 ho2 hR.thr (by omega)) (by omega) (by omega)
  · refine ev_i2l (ev_dt dt_Lw_form_0 5 rfl) rfl ?_
    refine ev_outS (ev_dt dt_Lw_form_0 6 rfl) hP hM ho (fun h3 o3 hP3 hM3 ho3 hov3 => ?_)
    refine ev_goto (tgt := 15) (ev_dt dt_Lw_form_0 7 rfl) (by decide) ?_
    refine ev_ic0 (ev_dt dt_Lw_form_0 11 rfl) ?_
    refine ev_ireturn (ev_dt dt_Lw_form_0 12 rfl) rfl rfl (ev_r1 ?_)
    refine ev_istore_5 (ev_dt dt_Lw_law_15 13 rfl) (by decide) rfl ?_
    refine ev_aload_2 (ev_dt dt_Lw_law_15 14 rfl) ?_
    refine ev_aload_0 (ev_dt dt_Lw_law_15 15 rfl) ?_
    refine ev_iload_4 (ev_dt dt_Lw_law_15 16 rfl) ?_
    refine ev_ic1 (ev_dt dt_Lw_law_15 17 rfl) ?_
    refine ev_addn (ev_dt dt_Lw_law_15 18 rfl) ?_
    refine ev_sld (ev_dt dt_Lw_law_15 19 rfl) hX hb (by omega) (by omega) ?_
    refine ev_callV (ev_dt dt_Lw_law_15 20 rfl) v_Lw_152_10 hM3.1 [.int (xs (5 * t + 1))] rfl np_Md_form rfl (ev_lk_of (j := 0) rfl rfl) (r_form hM3 hR.2.2.2.2.1.2.1 (fun g => False.elim (g j hj ex)) (fun j2 hj2 ex2 h2 hM2 hf2 => ev_r1 ?_))
    obtain rfl : j = j2 := nI_inj (by have := hR.2.2.2.2.1.2.1; omega) (by have := hR.2.2.2.2.1.2.1; omega) ex ex2
    have hP2 := hP3.byRef hf2
    have ho2 := (hf2 (X + 107) (Or.inr (by omega))).trans ho3
    refine ev_istore_6 (ev_dt dt_Lw_law_15 21 rfl) (by decide) rfl ?_
    refine ev_aload_2 (ev_dt dt_Lw_law_15 22 rfl) ?_
    refine ev_callV (ev_dt dt_Lw_law_15 23 rfl) v_Lw_75_10 hM2.1 [] rfl np_Md_thrown rfl (ev_lk_of (j := 0) rfl rfl) (r_thrown hM2 (ev_r1 ?_))
    refine ev_iload_5 (ev_dt dt_Lw_law_15 24 rfl) ?_
    refine ev_icmp_eqT (tgt := 1464) (ev_dt dt_Lw_law_15 25 rfl) (by decide) rfl ?_
    refine ev_iload_5 (ev_dt dt_Lw_law_15 28 rfl) ?_
    refine ev_if_neF (tgt := 1481) (ev_dt dt_Lw_law_15 29 rfl) (by decide) z00 ?_
    refine ev_aload_3 (ev_dt dt_Lw_law_15 30 rfl) ?_
    refine ev_ic0 (ev_dt dt_Lw_law_15 31 rfl) ?_
    refine ev_lald (ev_dt dt_Lw_law_15 32 rfl) ho2 (by omega) (by decide) hov3 ?_
    refine ev_iload_6 (ev_dt dt_Lw_law_15 33 rfl) ?_
    refine ev_i2l (ev_dt dt_Lw_law_15 34 rfl) rfl ?_
    refine ev_lcmp (ev_dt dt_Lw_law_15 35 rfl) ?_
    refine ev_if_eqT (tgt := 1481) (ev_dt dt_Lw_law_15 36 rfl) (by decide) (lgc ((hR.2.2.2.2.1.2.2 j hj).symm)) ?_
    refine ev_goto (tgt := 1484) (ev_dt dt_Lw_law_15 39 rfl) (by decide) ?_
    refine ev_fg_5 (ev_fg_6 ?_)
    exact kk h2 _ _ _ (LI.mk hP2 hs hM2 ho2 hR.thr (by omega)) (by omega) (by omega)
