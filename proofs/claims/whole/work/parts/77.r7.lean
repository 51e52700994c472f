/-! What is best, in the reference (written by gen_r7.py over walk.py). -/
/-- who beats whom, within the groups of column b (4: all are one group) -/
def kB (N : nod) (V : Nat → Nat → Int32) (i b : Nat) : Nat → Nat → Bool := fun y x => (decide (3 < b) || decide (V y b = V x b)) && decide (say N (V y) (V x) i = 1)
theorem kB_N {N : nod} {V : Nat → Nat → Int32} {i : Nat} : kB N V i 4 = bN N V i := by
  funext y x
  unfold kB bN
  rw [decide_eq_true (p := 3 < 4) (by decide), Bool.true_or, Bool.true_and]
theorem kB_G {N : nod} {V : Nat → Nat → Int32} {i b : Nat} (hb : b < 4) : kB N V i b = bG N V i b := by
  funext y x
  unfold kB bG
  rw [decide_eq_false (p := 3 < b) (by omega), Bool.false_or]
section R7
variable {E : ev_E} {d : Nat} {h : ev_h} {sz k n : Nat} {Q : ev_Q}
variable {m : Nat} {F : Nat → Nat} {A : Nat → Nat → Int32}
theorem r_mark_in {i b c0 v : Nat} {nc : Nat} {N : nod} {ed : Nat → Nat → Int32} {zs : Nat → Nat} {T : Nat → Bool} {s cc : Nat} {cn co : Nat → Nat} {th : Nat → Int32} (hS : RS A nc N ed zs) (hnc : nc ≤ 24) (hC : RC A T s cc cn co th) (hF1 : F 1 ≤ 120) (hi : i < nc) (hb : b ≤ 4) (hv : v < F 1) (kE : ∀ A' h', mA A A' → Rf E m F A' h' → fR m h h' → (∀ w, w < v + 1 → A' 17 w = b2 (ub (F 1) (pR A T cc cn co th) (kB N (rV A) i b) w)) → Ev E m_Md_mark (d + 4) 152 [some (.ref m), some (.int (nI i)), some (.int (nI s)), some (.int (nI b)), some (.int (nI c0)), some (.int (nI v)), none, none] [] h' sz k n Q) : ∀ m' j A' h', j + m' = F 1 → mA A A' → Rf E m F A' h' → fR m h h' → (∀ w, w < v → A' 17 w = b2 (ub (F 1) (pR A T cc cn co th) (kB N (rV A) i b) w)) → A' 17 v = b2 (ubr (pR A T cc cn co th) (kB N (rV A) i b) v j) → Ev E m_Md_mark (d + 4) 32 [some (.ref m), some (.int (nI i)), some (.int (nI s)), some (.int (nI b)), some (.int (nI c0)), some (.int (nI v)), some (.int (nI j)), none] [] h' sz k n Q := by
    intro m'
    induction m' with
    | zero =>
      intro j A' h' hj hA hM' hf' hW hv0
      refine ev_iload_6 (ev_dt dt_Md_mark_0 18 rfl) ?_
      refine ev_aload_0 (ev_dt dt_Md_mark_0 19 rfl) ?_
      refine ev_get (v := .int (nI (F 1))) (ev_dt dt_Md_mark_0 20 rfl) g_Md_99_10 hM'.1 rfl ?_
      refine ev_icmp_geT (tgt := 152) (ev_dt dt_Md_mark_0 21 rfl) (by decide) (nI_le (by omega) (by omega)) ?_
      refine ev_fg_6 ?_
      exact kE A' h' hA hM' hf' (fun w hw => by
        by_cases e : w = v
        · subst e; rw [hv0, ← ubr_ub, show j = F 1 by omega]
        · exact hW w (by omega))
    | succ m' ih =>
      intro j A' h' hj hA hM' hf' hW hv0
      refine ev_iload_6 (ev_dt dt_Md_mark_0 18 rfl) ?_
      refine ev_aload_0 (ev_dt dt_Md_mark_0 19 rfl) ?_
      refine ev_get (v := .int (nI (F 1))) (ev_dt dt_Md_mark_0 20 rfl) g_Md_99_10 hM'.1 rfl ?_
      refine ev_icmp_geF (tgt := 152) (ev_dt dt_Md_mark_0 21 rfl) (by decide) (nI_ge (by omega) (by omega)) ?_
      refine ev_aload_0 (ev_dt dt_Md_mark_0 22 rfl) ?_
      refine ev_get (v := .ref (m + 18)) (ev_dt dt_Md_mark_0 23 rfl) g_Md_62_10 hM'.1 rfl ?_
      refine ev_iload_5 (ev_dt dt_Md_mark_0 24 rfl) ?_
      refine ev_zald (f := A' 17) (ev_dt dt_Md_mark_0 25 rfl) hM'.a17 (by omega) (by decide) rfl ?_
      rw [hv0]
      refine ev_if_eq (tgt := 152) (ev_dt dt_Md_mark_0 26 rfl) (by decide) (fun g1 => ?_) (fun g1 => ?_)
      · have g1' := b2_0.mp g1
        have g2' := ubr_false g1' (F 1 - j)
        rw [show j + (F 1 - j) = F 1 by omega] at g2'
        refine ev_fg_6 ?_
        exact kE A' h' hA hM' hf' (fun w hw => by
          by_cases e : w = v
          · subst e; rw [hv0, ← ubr_ub, g1', g2']
          · exact hW w (by omega))
      · have g1' := b2_1 g1
        refine ev_aload_0 (ev_dt dt_Md_mark_0 27 rfl) ?_
        refine ev_iload_2 (ev_dt dt_Md_mark_0 28 rfl) ?_
        refine ev_iload_6 (ev_dt dt_Md_mark_0 29 rfl) ?_
        refine ev_callV (ev_dt dt_Md_mark_0 30 rfl) v_Md_159_10 hM'.1 [.int (nI s), .int (nI j)] rfl np_Md_passes rfl (ev_lk_of (j := 2) rfl rfl) (r_passes (d := d + 2) hM' (hC.kept hA) (by omega) (ev_r1 ?_))
        rw [mA_pR hA]
        refine ev_if_eq (tgt := 113) (ev_dt dt_Md_mark_0 31 rfl) (by decide) (fun g2 => ?_) (fun g2 => ?_)
        · have g2' := b2_0.mp g2
          refine ev_ic0 (ev_dt dt_Md_mark_1 4 rfl) ?_
          refine ev_istore_7 (ev_dt dt_Md_mark_1 5 rfl) (by decide) rfl ?_
          refine ev_aload_0 (ev_dt dt_Md_mark_1 6 rfl) ?_
          refine ev_get (v := .ref (m + 18)) (ev_dt dt_Md_mark_1 7 rfl) g_Md_62_10 hM'.1 rfl ?_
          refine ev_iload_5 (ev_dt dt_Md_mark_1 8 rfl) ?_
          refine ev_iload_7 (ev_dt dt_Md_mark_1 9 rfl) ?_
          refine ev_if_eqT (tgt := 140) (ev_dt dt_Md_mark_1 10 rfl) (by decide) (by decide +kernel) ?_
          refine ev_ic1 (ev_dt dt_Md_mark_1 18 rfl) ?_
          refine ev_goto (tgt := 145) (ev_dt dt_Md_mark_1 19 rfl) (by decide) ?_
          refine rf_st17 (ev_dt dt_Md_mark_1 21 rfl) hM' (by omega) bz1 (fun h51 hM51 hf51 => ?_)
          replace hf51 := hf'.tr hf51
          refine ev_inc1_6 (ev_dt dt_Md_mark_1 22 rfl) (by decide) rfl ?_
          refine ev_goto (tgt := 32) (ev_dt dt_Md_mark_1 23 rfl) (by decide) ?_
          refine ev_fg_7 ?_
          exact ih (j + 1) _ _ (by omega) (mA.up hA) hM51 hf51 (fun w hw => by rw [uA_u, pk_un (by omega)]; exact hW w hw) (by rw [uA_u, pk_us, ubr, g1', Bool.true_and, g2', Bool.false_and]; rfl)
        · have g2' := b2_1 g2
          refine ev_iload_3 (ev_dt dt_Md_mark_0 32 rfl) ?_
          refine ev_ic3 (ev_dt dt_Md_mark_0 33 rfl) ?_
          refine ev_icmp_gt (tgt := 109) (ev_dt dt_Md_mark_0 34 rfl) (by decide) (fun g3 => ?_) (fun g3 => ?_)
          · have hgr : (decide (3 < b) || decide (rV A j b = rV A v b)) = true := by rw [decide_eq_true ((nI_ltI (by omega) (by omega)).mp g3), Bool.true_or]
            refine ev_ic1 (ev_dt dt_Md_mark_1 2 rfl) ?_
            refine ev_goto (tgt := 114) (ev_dt dt_Md_mark_1 3 rfl) (by decide) ?_
            refine ev_istore_7 (ev_dt dt_Md_mark_1 5 rfl) (by decide) rfl ?_
            refine ev_aload_0 (ev_dt dt_Md_mark_1 6 rfl) ?_
            refine ev_get (v := .ref (m + 18)) (ev_dt dt_Md_mark_1 7 rfl) g_Md_62_10 hM'.1 rfl ?_
            refine ev_iload_5 (ev_dt dt_Md_mark_1 8 rfl) ?_
            refine ev_iload_7 (ev_dt dt_Md_mark_1 9 rfl) ?_
            refine ev_if_eqF (tgt := 140) (ev_dt dt_Md_mark_1 10 rfl) (by decide) (by decide +kernel) ?_
            refine ev_aload_0 (ev_dt dt_Md_mark_1 11 rfl) ?_
            refine ev_iload_1 (ev_dt dt_Md_mark_1 12 rfl) ?_
            refine ev_iload_6 (ev_dt dt_Md_mark_1 13 rfl) ?_
            refine ev_iload_5 (ev_dt dt_Md_mark_1 14 rfl) ?_
            refine ev_callV (ev_dt dt_Md_mark_1 15 rfl) v_Md_152_10 hM'.1 [.int (nI i), .int (nI j), .int (nI v)] rfl np_Md_say rfl (ev_lk_of (j := 1) rfl rfl) (r_say (d := d) hM' (hS.kept hA) hnc hi (by omega) (by omega) (fun h9 A9 hA9 hM9 hf9 => ev_r1 ?_))
            replace hf9 := hf'.tr hf9
            rw [mA_rV hA, mA_rV hA]
            refine ev_ic1 (ev_dt dt_Md_mark_1 16 rfl) ?_
            refine ev_icmp_eq (tgt := 144) (ev_dt dt_Md_mark_1 17 rfl) (by decide) (fun g4 => ?_) (fun g4 => ?_)
            · refine ev_ic0 (ev_dt dt_Md_mark_1 20 rfl) ?_
              refine rf_st17 (ev_dt dt_Md_mark_1 21 rfl) hM9 (by omega) bz0 (fun h52 hM52 hf52 => ?_)
              replace hf52 := hf9.tr hf52
              refine ev_inc1_6 (ev_dt dt_Md_mark_1 22 rfl) (by decide) rfl ?_
              refine ev_goto (tgt := 32) (ev_dt dt_Md_mark_1 23 rfl) (by decide) ?_
              refine ev_fg_7 ?_
              exact ih (j + 1) _ _ (by omega) (mA.up (hA.said hA9)) hM52 hf52 (fun w hw => by rw [uA_u, pk_un (by omega), hA9 17 (by decide)]; exact hW w hw) (by rw [uA_u, pk_us, ubr, g1', Bool.true_and, g2', Bool.true_and, kB, hgr, Bool.true_and, decide_eq_true (nv.mp g4)]; rfl)
            · refine ev_ic1 (ev_dt dt_Md_mark_1 18 rfl) ?_
              refine ev_goto (tgt := 145) (ev_dt dt_Md_mark_1 19 rfl) (by decide) ?_
              refine rf_st17 (ev_dt dt_Md_mark_1 21 rfl) hM9 (by omega) bz1 (fun h53 hM53 hf53 => ?_)
              replace hf53 := hf9.tr hf53
              refine ev_inc1_6 (ev_dt dt_Md_mark_1 22 rfl) (by decide) rfl ?_
              refine ev_goto (tgt := 32) (ev_dt dt_Md_mark_1 23 rfl) (by decide) ?_
              refine ev_fg_7 ?_
              exact ih (j + 1) _ _ (by omega) (mA.up (hA.said hA9)) hM53 hf53 (fun w hw => by rw [uA_u, pk_un (by omega), hA9 17 (by decide)]; exact hW w hw) (by rw [uA_u, pk_us, ubr, g1', Bool.true_and, g2', Bool.true_and, kB, hgr, Bool.true_and, decide_eq_false (fun e => g4 (by rw [e]; rfl))]; rfl)
          · have hb3 : b ≤ 3 := (nI_leI (by omega) (by omega)).mp (Int32.not_lt.mp g3)
            refine ev_aload_0 (ev_dt dt_Md_mark_0 35 rfl) ?_
            refine ev_get (v := .ref (m + 2)) (ev_dt dt_Md_mark_0 36 rfl) g_Md_13_10 hM'.1 rfl ?_
            refine ev_ic4 (ev_dt dt_Md_mark_0 37 rfl) ?_
            refine ev_iload_6 (ev_dt dt_Md_mark_0 38 rfl) ?_
            refine ev_imul (ev_dt dt_Md_mark_0 39 rfl) (nI_mul _ _) ?_
            refine ev_iload_3 (ev_dt dt_Md_mark_0 40 rfl) ?_
            refine ev_ic3 (ev_dt dt_Md_mark_0 41 rfl) ?_
            refine ev_icmp_leT (tgt := 83) (ev_dt dt_Md_mark_0 42 rfl) (by decide) (Int32.not_lt.mp g3) ?_
            refine ev_iload_3 (ev_dt dt_Md_mark_0 45 rfl) ?_
            refine ev_addn (ev_dt dt_Md_mark_0 46 rfl) ?_
            refine ev_iald (f := A' 1) (ev_dt dt_Md_mark_0 47 rfl) hM'.a1 (by omega) (by decide) rfl ?_
            rw [hA 1 (by decide) (by decide)]
            refine ev_aload_0 (ev_dt dt_Md_mark_0 48 rfl) ?_
            refine ev_get (v := .ref (m + 2)) (ev_dt dt_Md_mark_0 49 rfl) g_Md_13_10 hM'.1 rfl ?_
            refine ev_ic4 (ev_dt dt_Md_mark_0 50 rfl) ?_
            refine ev_iload_5 (ev_dt dt_Md_mark_0 51 rfl) ?_
            refine ev_imul (ev_dt dt_Md_mark_0 52 rfl) (nI_mul _ _) ?_
            refine ev_iload_3 (ev_dt dt_Md_mark_0 53 rfl) ?_
            refine ev_ic3 (ev_dt dt_Md_mark_0 54 rfl) ?_
            refine ev_icmp_leT (tgt := 103) (ev_dt dt_Md_mark_0 55 rfl) (by decide) (Int32.not_lt.mp g3) ?_
            refine ev_iload_3 (ev_dt dt_Md_mark_0 58 rfl) ?_
            refine ev_addn (ev_dt dt_Md_mark_0 59 rfl) ?_
            refine ev_iald (f := A' 1) (ev_dt dt_Md_mark_1 0 rfl) hM'.a1 (by omega) (by decide) rfl ?_
            rw [hA 1 (by decide) (by decide)]
            refine ev_icmp_ne (tgt := 113) (ev_dt dt_Md_mark_1 1 rfl) (by decide) (fun g5 => ?_) (fun g5 => ?_)
            · have hgr : (decide (3 < b) || decide (rV A j b = rV A v b)) = false := by rw [decide_eq_false (p := 3 < b) (by omega), Bool.false_or]; exact decide_eq_false g5
              refine ev_ic0 (ev_dt dt_Md_mark_1 4 rfl) ?_
              refine ev_istore_7 (ev_dt dt_Md_mark_1 5 rfl) (by decide) rfl ?_
              refine ev_aload_0 (ev_dt dt_Md_mark_1 6 rfl) ?_
              refine ev_get (v := .ref (m + 18)) (ev_dt dt_Md_mark_1 7 rfl) g_Md_62_10 hM'.1 rfl ?_
              refine ev_iload_5 (ev_dt dt_Md_mark_1 8 rfl) ?_
              refine ev_iload_7 (ev_dt dt_Md_mark_1 9 rfl) ?_
              refine ev_if_eqT (tgt := 140) (ev_dt dt_Md_mark_1 10 rfl) (by decide) (by decide +kernel) ?_
              refine ev_ic1 (ev_dt dt_Md_mark_1 18 rfl) ?_
              refine ev_goto (tgt := 145) (ev_dt dt_Md_mark_1 19 rfl) (by decide) ?_
              refine rf_st17 (ev_dt dt_Md_mark_1 21 rfl) hM' (by omega) bz1 (fun h54 hM54 hf54 => ?_)
              replace hf54 := hf'.tr hf54
              refine ev_inc1_6 (ev_dt dt_Md_mark_1 22 rfl) (by decide) rfl ?_
              refine ev_goto (tgt := 32) (ev_dt dt_Md_mark_1 23 rfl) (by decide) ?_
              refine ev_fg_7 ?_
              exact ih (j + 1) _ _ (by omega) (mA.up hA) hM54 hf54 (fun w hw => by rw [uA_u, pk_un (by omega)]; exact hW w hw) (by rw [uA_u, pk_us, ubr, g1', Bool.true_and, kB, hgr, Bool.false_and, Bool.and_false]; rfl)
            · have hgr : (decide (3 < b) || decide (rV A j b = rV A v b)) = true := by rw [decide_eq_true (show rV A j b = rV A v b from g5), Bool.or_true]
              refine ev_ic1 (ev_dt dt_Md_mark_1 2 rfl) ?_
              refine ev_goto (tgt := 114) (ev_dt dt_Md_mark_1 3 rfl) (by decide) ?_
              refine ev_istore_7 (ev_dt dt_Md_mark_1 5 rfl) (by decide) rfl ?_
              refine ev_aload_0 (ev_dt dt_Md_mark_1 6 rfl) ?_
              refine ev_get (v := .ref (m + 18)) (ev_dt dt_Md_mark_1 7 rfl) g_Md_62_10 hM'.1 rfl ?_
              refine ev_iload_5 (ev_dt dt_Md_mark_1 8 rfl) ?_
              refine ev_iload_7 (ev_dt dt_Md_mark_1 9 rfl) ?_
              refine ev_if_eqF (tgt := 140) (ev_dt dt_Md_mark_1 10 rfl) (by decide) (by decide +kernel) ?_
              refine ev_aload_0 (ev_dt dt_Md_mark_1 11 rfl) ?_
              refine ev_iload_1 (ev_dt dt_Md_mark_1 12 rfl) ?_
              refine ev_iload_6 (ev_dt dt_Md_mark_1 13 rfl) ?_
              refine ev_iload_5 (ev_dt dt_Md_mark_1 14 rfl) ?_
              refine ev_callV (ev_dt dt_Md_mark_1 15 rfl) v_Md_152_10 hM'.1 [.int (nI i), .int (nI j), .int (nI v)] rfl np_Md_say rfl (ev_lk_of (j := 1) rfl rfl) (r_say (d := d) hM' (hS.kept hA) hnc hi (by omega) (by omega) (fun h9 A9 hA9 hM9 hf9 => ev_r1 ?_))
              replace hf9 := hf'.tr hf9
              rw [mA_rV hA, mA_rV hA]
              refine ev_ic1 (ev_dt dt_Md_mark_1 16 rfl) ?_
              refine ev_icmp_eq (tgt := 144) (ev_dt dt_Md_mark_1 17 rfl) (by decide) (fun g4 => ?_) (fun g4 => ?_)
              · refine ev_ic0 (ev_dt dt_Md_mark_1 20 rfl) ?_
                refine rf_st17 (ev_dt dt_Md_mark_1 21 rfl) hM9 (by omega) bz0 (fun h55 hM55 hf55 => ?_)
                replace hf55 := hf9.tr hf55
                refine ev_inc1_6 (ev_dt dt_Md_mark_1 22 rfl) (by decide) rfl ?_
                refine ev_goto (tgt := 32) (ev_dt dt_Md_mark_1 23 rfl) (by decide) ?_
                refine ev_fg_7 ?_
                exact ih (j + 1) _ _ (by omega) (mA.up (hA.said hA9)) hM55 hf55 (fun w hw => by rw [uA_u, pk_un (by omega), hA9 17 (by decide)]; exact hW w hw) (by rw [uA_u, pk_us, ubr, g1', Bool.true_and, g2', Bool.true_and, kB, hgr, Bool.true_and, decide_eq_true (nv.mp g4)]; rfl)
              · refine ev_ic1 (ev_dt dt_Md_mark_1 18 rfl) ?_
                refine ev_goto (tgt := 145) (ev_dt dt_Md_mark_1 19 rfl) (by decide) ?_
                refine rf_st17 (ev_dt dt_Md_mark_1 21 rfl) hM9 (by omega) bz1 (fun h56 hM56 hf56 => ?_)
                replace hf56 := hf9.tr hf56
                refine ev_inc1_6 (ev_dt dt_Md_mark_1 22 rfl) (by decide) rfl ?_
                refine ev_goto (tgt := 32) (ev_dt dt_Md_mark_1 23 rfl) (by decide) ?_
                refine ev_fg_7 ?_
                exact ih (j + 1) _ _ (by omega) (mA.up (hA.said hA9)) hM56 hf56 (fun w hw => by rw [uA_u, pk_un (by omega), hA9 17 (by decide)]; exact hW w hw) (by rw [uA_u, pk_us, ubr, g1', Bool.true_and, g2', Bool.true_and, kB, hgr, Bool.true_and, decide_eq_false (fun e => g4 (by rw [e]; rfl))]; rfl)
theorem r_mark {i b : Nat} {nc : Nat} {N : nod} {ed : Nat → Nat → Int32} {zs : Nat → Nat} {T : Nat → Bool} {s cc : Nat} {cn co : Nat → Nat} {th : Nat → Int32} (hM : Rf E m F A h) (hS : RS A nc N ed zs) (hnc : nc ≤ 24) (hC : RC A T s cc cn co th) (hF1 : F 1 ≤ 120) (hi : i < nc) (hb : b ≤ 4) (kk : ∀ h' A', mA A A' → Rf E m F A' h' → fR m h h' → (∀ w, w < F 1 → A' 17 w = b2 (ub (F 1) (pR A T cc cn co th) (kB N (rV A) i b) w)) → Q (.returned (some (.int (nI (cnt (ub (F 1) (pR A T cc cn co th) (kB N (rV A) i b)) (F 1)))))) h' sz k n) : Ev E m_Md_mark (d + 4) 0 [some (.ref m), some (.int (nI i)), some (.int (nI s)), some (.int (nI b)), none, none, none, none] [] h sz k n Q := by
  have loop : ∀ m' v A' h', v + m' = F 1 → mA A A' → Rf E m F A' h' → fR m h h' → (∀ w, w < v → A' 17 w = b2 (ub (F 1) (pR A T cc cn co th) (kB N (rV A) i b) w)) → Ev E m_Md_mark (d + 4) 6 [some (.ref m), some (.int (nI i)), some (.int (nI s)), some (.int (nI b)), some (.int (nI (cnt (ub (F 1) (pR A T cc cn co th) (kB N (rV A) i b)) v))), some (.int (nI v)), none, none] [] h' sz k n Q := by
    intro m'
    induction m' with
    | zero =>
      intro v A' h' hj hA hM' hf' hW
      refine ev_iload_5 (ev_dt dt_Md_mark_0 4 rfl) ?_
      refine ev_aload_0 (ev_dt dt_Md_mark_0 5 rfl) ?_
      refine ev_get (v := .int (nI (F 1))) (ev_dt dt_Md_mark_0 6 rfl) g_Md_99_10 hM'.1 rfl ?_
      refine ev_icmp_geT (tgt := 178) (ev_dt dt_Md_mark_0 7 rfl) (by decide) (nI_le (by omega) (by omega)) ?_
      refine ev_iload_4 (ev_dt dt_Md_mark_1 37 rfl) ?_
      obtain rfl : v = F 1 := by omega
      exact ev_ireturn (ev_dt dt_Md_mark_1 38 rfl) rfl rfl (kk h' A' hA hM' hf' hW)
    | succ m' ih =>
      intro v A' h' hj hA hM' hf' hW
      refine ev_iload_5 (ev_dt dt_Md_mark_0 4 rfl) ?_
      refine ev_aload_0 (ev_dt dt_Md_mark_0 5 rfl) ?_
      refine ev_get (v := .int (nI (F 1))) (ev_dt dt_Md_mark_0 6 rfl) g_Md_99_10 hM'.1 rfl ?_
      refine ev_icmp_geF (tgt := 178) (ev_dt dt_Md_mark_0 7 rfl) (by decide) (nI_ge (by omega) (by omega)) ?_
      refine ev_aload_0 (ev_dt dt_Md_mark_0 8 rfl) ?_
      refine ev_get (v := .ref (m + 18)) (ev_dt dt_Md_mark_0 9 rfl) g_Md_62_10 hM'.1 rfl ?_
      refine ev_iload_5 (ev_dt dt_Md_mark_0 10 rfl) ?_
      refine ev_aload_0 (ev_dt dt_Md_mark_0 11 rfl) ?_
      refine ev_iload_2 (ev_dt dt_Md_mark_0 12 rfl) ?_
      refine ev_iload_5 (ev_dt dt_Md_mark_0 13 rfl) ?_
      refine ev_callV (ev_dt dt_Md_mark_0 14 rfl) v_Md_159_10 hM'.1 [.int (nI s), .int (nI v)] rfl np_Md_passes rfl (ev_lk_of (j := 2) rfl rfl) (r_passes (d := d + 2) hM' (hC.kept hA) (by omega) (ev_r1 ?_))
      rw [mA_pR hA]
      refine rf_st17 (ev_dt dt_Md_mark_0 15 rfl) hM' (by omega) (b2_n _) (fun h51 hM51 hf51 => ?_)
      replace hf51 := hf'.tr hf51
      refine ev_ic0 (ev_dt dt_Md_mark_0 16 rfl) ?_
      refine ev_istore_6 (ev_dt dt_Md_mark_0 17 rfl) (by decide) rfl ?_
      refine r_mark_in hS hnc hC hF1 hi hb (by omega) (fun A2 h2 hA2 hM2 hf2 hW2 => ?_) (F 1) 0 _ _ (by omega) (mA.up hA) hM51 hf51 (fun w hw => by rw [uA_u, pk_un (by omega)]; exact hW w hw) (by rw [uA_u, pk_us]; rfl)
      refine ev_iload_4 (ev_dt dt_Md_mark_1 24 rfl) ?_
      refine ev_aload_0 (ev_dt dt_Md_mark_1 25 rfl) ?_
      refine ev_get (v := .ref (m + 18)) (ev_dt dt_Md_mark_1 26 rfl) g_Md_62_10 hM2.1 rfl ?_
      refine ev_iload_5 (ev_dt dt_Md_mark_1 27 rfl) ?_
      refine ev_zald (f := A2 17) (ev_dt dt_Md_mark_1 28 rfl) hM2.a17 (by omega) (by decide) rfl ?_
      rw [hW2 v (by omega)]
      refine ev_if_eq (tgt := 168) (ev_dt dt_Md_mark_1 29 rfl) (by decide) (fun g1 => ?_) (fun g1 => ?_)
      · refine ev_ic0 (ev_dt dt_Md_mark_1 32 rfl) ?_
        refine ev_addn (ev_dt dt_Md_mark_1 33 rfl) ?_
        refine ev_istore_4 (ev_dt dt_Md_mark_1 34 rfl) (by decide) rfl ?_
        refine ev_inc1_5 (ev_dt dt_Md_mark_1 35 rfl) (by decide) rfl ?_
        refine ev_goto (tgt := 6) (ev_dt dt_Md_mark_1 36 rfl) (by decide) ?_
        have e : cnt (ub (F 1) (pR A T cc cn co th) (kB N (rV A) i b)) (v + 1) = cnt (ub (F 1) (pR A T cc cn co th) (kB N (rV A) i b)) v + 0 := by rw [cnt, b2_0.mp g1]; simp
        rw [← e]
        exact ih (v + 1) A2 h2 (by omega) hA2 hM2 hf2 hW2
      · refine ev_ic1 (ev_dt dt_Md_mark_1 30 rfl) ?_
        refine ev_goto (tgt := 169) (ev_dt dt_Md_mark_1 31 rfl) (by decide) ?_
        refine ev_addn (ev_dt dt_Md_mark_1 33 rfl) ?_
        refine ev_istore_4 (ev_dt dt_Md_mark_1 34 rfl) (by decide) rfl ?_
        refine ev_inc1_5 (ev_dt dt_Md_mark_1 35 rfl) (by decide) rfl ?_
        refine ev_goto (tgt := 6) (ev_dt dt_Md_mark_1 36 rfl) (by decide) ?_
        have e : cnt (ub (F 1) (pR A T cc cn co th) (kB N (rV A) i b)) (v + 1) = cnt (ub (F 1) (pR A T cc cn co th) (kB N (rV A) i b)) v + 1 := by rw [cnt, b2_1 g1]; simp
        rw [← e]
        exact ih (v + 1) A2 h2 (by omega) hA2 hM2 hf2 hW2
  refine ev_ic0 (ev_dt dt_Md_mark_0 0 rfl) ?_
  refine ev_istore_4 (ev_dt dt_Md_mark_0 1 rfl) (by decide) rfl ?_
  refine ev_ic0 (ev_dt dt_Md_mark_0 2 rfl) ?_
  refine ev_istore_5 (ev_dt dt_Md_mark_0 3 rfl) (by decide) rfl ?_
  exact loop (F 1) 0 A h (by omega) mA.rf hM fR.rf (fun w hw => absurd hw (Nat.not_lt_zero _))
end R7
