/-! reason, in the reference (written by gen_r11.py over walk.py). -/
section R11
variable {E : ev_E} {d : Nat} {h : ev_h} {sz k n : Nat} {Q : ev_Q}
variable {m : Nat} {F : Nat → Nat} {A : Nat → Nat → Int32}
theorem r_walk {q : Int32} {nc : Nat} {N : nod} {ed : Nat → Nat → Int32} {zs : Nat → Nat} (hS : RS A nc N ed zs) (hnc : nc ≤ 24) (hq : q = 0 ∨ q = nI 1) : ∀ f i j u v A' h', i ≤ f → f + j ≤ 23 → i < nc → u < 120 → v < 120 → sA A A' → Rf E m (uF F 0 0) A' h' → fR m h h' → (∀ h' A', sA A A' → Rf E m (uF F 0 0) A' h' → fR m h h' → Q (.returned (some (.int (wR q ((wk N f (rV A u) (rV A v) i).1, j + (wk N f (rV A u) (rV A v) i).2))))) h' sz k n) → Ev E m_Md_reason (d + 4) 78 [some (.ref m), none, none, none, some (.int q), some (.int (nI i)), some (.int (nI u)), some (.int (nI v)), some (.int (nI (j + 1))), none, none, none] [] h' sz k n Q := by
    intro f
    induction f with
    | zero =>
      intro i j u v A' h' hif hfj hi hu hv hA hM' hf' kE
      have hk : nK N i < 6 := by
        refine Nat.lt_of_not_le (fun e => ?_)
        have := (hS.2.2.2 i hi (by omega)).2.2.1
        omega
      have hkA := (hS.1 i hi).1
      rw [← hA 2 (by decide)] at hkA
      refine ev_aload_0 (ev_dt dt_Md_reason_0 44 rfl) ?_
      refine ev_get (v := .ref (m + 3)) (ev_dt dt_Md_reason_0 45 rfl) g_Md_17_10 hM'.1 rfl ?_
      refine ev_iload_5 (ev_dt dt_Md_reason_0 46 rfl) ?_
      refine ev_iald (f := A' 2) (ev_dt dt_Md_reason_0 47 rfl) hM'.a2 (by omega) (by decide) rfl ?_
      rw [hkA]
      refine ev_ic5 (ev_dt dt_Md_reason_0 48 rfl) ?_
      refine ev_icmp_leT (tgt := 203) (ev_dt dt_Md_reason_0 49 rfl) (by decide) (nI_le (by omega) (by omega)) ?_
      have k2 := kE h' A' hA hM' hf'
      rw [wk_o hk] at k2
      refine ev_iload_4 (ev_dt dt_Md_reason_1 47 rfl) ?_
      refine ev_if_ne (tgt := 213) (ev_dt dt_Md_reason_1 48 rfl) (by decide) (fun g0 => ?_) (fun g0 => ?_)
      · refine ev_iload_8 (ev_dt dt_Md_reason_1 51 rfl) ?_
        rw [wR, if_neg g0, if_pos (hq.resolve_left g0)] at k2
        exact ev_ireturn (ev_dt dt_Md_reason_1 52 rfl) rfl rfl k2
      · refine ev_iload_5 (ev_dt dt_Md_reason_1 49 rfl) ?_
        refine ev_goto (tgt := 215) (ev_dt dt_Md_reason_1 50 rfl) (by decide) ?_
        rw [wR, if_pos g0] at k2
        exact ev_ireturn (ev_dt dt_Md_reason_1 52 rfl) rfl rfl k2
    | succ f ih =>
      intro i j u v A' h' hif hfj hi hu hv hA hM' hf' kE
      by_cases hk : nK N i < 6
      · have hkA := (hS.1 i hi).1
        rw [← hA 2 (by decide)] at hkA
        refine ev_aload_0 (ev_dt dt_Md_reason_0 44 rfl) ?_
        refine ev_get (v := .ref (m + 3)) (ev_dt dt_Md_reason_0 45 rfl) g_Md_17_10 hM'.1 rfl ?_
        refine ev_iload_5 (ev_dt dt_Md_reason_0 46 rfl) ?_
        refine ev_iald (f := A' 2) (ev_dt dt_Md_reason_0 47 rfl) hM'.a2 (by omega) (by decide) rfl ?_
        rw [hkA]
        refine ev_ic5 (ev_dt dt_Md_reason_0 48 rfl) ?_
        refine ev_icmp_leT (tgt := 203) (ev_dt dt_Md_reason_0 49 rfl) (by decide) (nI_le (by omega) (by omega)) ?_
        have k2 := kE h' A' hA hM' hf'
        rw [wk_o hk] at k2
        refine ev_iload_4 (ev_dt dt_Md_reason_1 47 rfl) ?_
        refine ev_if_ne (tgt := 213) (ev_dt dt_Md_reason_1 48 rfl) (by decide) (fun g0 => ?_) (fun g0 => ?_)
        · refine ev_iload_8 (ev_dt dt_Md_reason_1 51 rfl) ?_
          rw [wR, if_neg g0, if_pos (hq.resolve_left g0)] at k2
          exact ev_ireturn (ev_dt dt_Md_reason_1 52 rfl) rfl rfl k2
        · refine ev_iload_5 (ev_dt dt_Md_reason_1 49 rfl) ?_
          refine ev_goto (tgt := 215) (ev_dt dt_Md_reason_1 50 rfl) (by decide) ?_
          rw [wR, if_pos g0] at k2
          exact ev_ireturn (ev_dt dt_Md_reason_1 52 rfl) rfl rfl k2
      · obtain ⟨tA', tB', tl, tq⟩ := hS.2.2.2 i hi hk
        obtain ⟨hkA, hk9, -, hLl, hRr, -⟩ := (hS.said hA).1 i hi
        refine ev_aload_0 (ev_dt dt_Md_reason_0 44 rfl) ?_
        refine ev_get (v := .ref (m + 3)) (ev_dt dt_Md_reason_0 45 rfl) g_Md_17_10 hM'.1 rfl ?_
        refine ev_iload_5 (ev_dt dt_Md_reason_0 46 rfl) ?_
        refine ev_iald (f := A' 2) (ev_dt dt_Md_reason_0 47 rfl) hM'.a2 (by omega) (by decide) rfl ?_
        rw [hkA]
        refine ev_ic5 (ev_dt dt_Md_reason_0 48 rfl) ?_
        refine ev_icmp_leF (tgt := 203) (ev_dt dt_Md_reason_0 49 rfl) (by decide) (nI_ge (by omega) (by omega)) ?_
        refine ev_aload_0 (ev_dt dt_Md_reason_0 50 rfl) ?_
        refine ev_aload_0 (ev_dt dt_Md_reason_0 51 rfl) ?_
        refine ev_get (v := .ref (m + 5)) (ev_dt dt_Md_reason_0 52 rfl) g_Md_23_10 hM'.1 rfl ?_
        refine ev_iload_5 (ev_dt dt_Md_reason_0 53 rfl) ?_
        refine ev_iald (f := A' 4) (ev_dt dt_Md_reason_0 54 rfl) hM'.a4 (by omega) (by decide) rfl ?_
        rw [hLl, tA']
        refine ev_iload_6 (ev_dt dt_Md_reason_0 55 rfl) ?_
        refine ev_iload_7 (ev_dt dt_Md_reason_0 56 rfl) ?_
        refine ev_callV (ev_dt dt_Md_reason_0 57 rfl) v_Md_152_10 hM'.1 [.int (nI (nL N i)), .int (nI u), .int (nI v)] rfl np_Md_say rfl (ev_lk_of (j := 1) rfl rfl) (r_say (d := d) hM' (hS.said hA) hnc (by omega) hu hv (fun h9 A9 hA9 hM9 hf9 => ev_r1 ?_))
        replace hf9 := hf'.tr hf9
        have hrv : ∀ r, rV A' r = rV A r := fun r => by unfold rV; rw [hA 1 (by decide)]
        rw [hrv, hrv]
        rw [← hA9 2 (by decide)] at hkA
        rw [← hA9 4 (by decide)] at hLl
        rw [← hA9 5 (by decide)] at hRr
        have hA' := hA.tr hA9
        refine ev_istore_9 (ev_dt dt_Md_reason_0 58 rfl) (by decide) rfl ?_
        refine ev_aload_0 (ev_dt dt_Md_reason_0 59 rfl) ?_
        refine ev_get (v := .ref (m + 3)) (ev_dt dt_Md_reason_1 0 rfl) g_Md_17_10 hM9.1 rfl ?_
        refine ev_iload_5 (ev_dt dt_Md_reason_1 1 rfl) ?_
        refine ev_iald (f := A9 2) (ev_dt dt_Md_reason_1 2 rfl) hM9.a2 (by omega) (by decide) rfl ?_
        rw [hkA]
        refine ev_bipush (ev_dt dt_Md_reason_1 3 rfl) bi_6 ?_
        obtain hk' | hk' | hk' | hk' : nK N i = 6 ∨ nK N i = 7 ∨ nK N i = 8 ∨ nK N i = 9 := by omega
        · refine ev_icmp_neF (tgt := 124) (ev_dt dt_Md_reason_1 4 rfl) (by decide) (by rw [hk']) ?_
          refine ev_iload_9 (ev_dt dt_Md_reason_1 5 rfl) ?_
          refine ev_ic1 (ev_dt dt_Md_reason_1 6 rfl) ?_
          refine ev_icmp_ne (tgt := 142) (ev_dt dt_Md_reason_1 7 rfl) (by decide) (fun g1 => ?_) (fun g1 => ?_)
          · refine ev_ic1 (ev_dt dt_Md_reason_1 17 rfl) ?_
            refine ev_goto (tgt := 147) (ev_dt dt_Md_reason_1 18 rfl) (by decide) ?_
            refine ev_istore_10 (ev_dt dt_Md_reason_1 20 rfl) (by decide) rfl ?_
            refine ev_aload_0 (ev_dt dt_Md_reason_1 21 rfl) ?_
            refine ev_get (v := .ref (m + 3)) (ev_dt dt_Md_reason_1 22 rfl) g_Md_17_10 hM9.1 rfl ?_
            refine ev_iload_5 (ev_dt dt_Md_reason_1 23 rfl) ?_
            refine ev_iald (f := A9 2) (ev_dt dt_Md_reason_1 24 rfl) hM9.a2 (by omega) (by decide) rfl ?_
            rw [hkA]
            refine ev_bipush (ev_dt dt_Md_reason_1 25 rfl) bi_9 ?_
            refine ev_icmp_neT (tgt := 173) (ev_dt dt_Md_reason_1 26 rfl) (by decide) (by rw [hk']; decide +kernel) ?_
            refine ev_iload_10 (ev_dt dt_Md_reason_1 33 rfl) ?_
            refine ev_if_eqF (tgt := 188) (ev_dt dt_Md_reason_1 34 rfl) (by decide) z10 ?_
            refine ev_aload_0 (ev_dt dt_Md_reason_1 35 rfl) ?_
            refine ev_get (v := .ref (m + 6)) (ev_dt dt_Md_reason_1 36 rfl) g_Md_26_10 hM9.1 rfl ?_
            refine ev_iload_5 (ev_dt dt_Md_reason_1 37 rfl) ?_
            refine ev_iald (f := A9 5) (ev_dt dt_Md_reason_1 38 rfl) hM9.a5 (by omega) (by decide) rfl ?_
            rw [hRr, tB']
            refine ev_goto (tgt := 195) (ev_dt dt_Md_reason_1 39 rfl) (by decide) ?_
            refine ev_istore_5 (ev_dt dt_Md_reason_1 44 rfl) (by decide) rfl ?_
            refine ev_inc1_8 (ev_dt dt_Md_reason_1 45 rfl) (by decide) rfl ?_
            refine ev_goto (tgt := 78) (ev_dt dt_Md_reason_1 46 rfl) (by decide) ?_
            have hnx : nx N (rV A u) (rV A v) i = nQ N i := by unfold nx; rw [if_pos hk']; exact if_neg (fun e => g1 (by rw [e]; rfl))
            rw [wk_t hk, if_neg (by omega), if_neg (by omega), hnx] at kE
            refine ev_less (ls' := [some (.ref m), none, none, none, some (.int q), some (.int (nI (nQ N i))), some (.int (nI u)), some (.int (nI v)), some (.int (nI ((j + 1) + 1))), none, none, none]) (fun x y hxy => ?_) ?_
            · rcases x with _ | _ | _ | _ | _ | _ | _ | _ | _ | _ | _ | _ | x <;> first | exact hxy | (simp at hxy)
            exact ih (nQ N i) (j + 1) u v _ _ (by omega) (by omega) (by omega) hu hv hA' hM9 hf9 (fun h' A' a b c => by have := kE h' A' a b c; rw [show j + 1 + (wk N f (rV A u) (rV A v) (nQ N i)).2 = j + ((wk N f (rV A u) (rV A v) (nQ N i)).2 + 1) by omega]; exact this)
          · refine ev_aload_0 (ev_dt dt_Md_reason_1 8 rfl) ?_
            refine ev_get (v := .ref (m + 3)) (ev_dt dt_Md_reason_1 9 rfl) g_Md_17_10 hM9.1 rfl ?_
            refine ev_iload_5 (ev_dt dt_Md_reason_1 10 rfl) ?_
            refine ev_iald (f := A9 2) (ev_dt dt_Md_reason_1 11 rfl) hM9.a2 (by omega) (by decide) rfl ?_
            rw [hkA]
            refine ev_bipush (ev_dt dt_Md_reason_1 12 rfl) bi_7 ?_
            refine ev_icmp_neT (tgt := 146) (ev_dt dt_Md_reason_1 13 rfl) (by decide) (by rw [hk']; decide +kernel) ?_
            refine ev_ic0 (ev_dt dt_Md_reason_1 19 rfl) ?_
            refine ev_istore_10 (ev_dt dt_Md_reason_1 20 rfl) (by decide) rfl ?_
            refine ev_aload_0 (ev_dt dt_Md_reason_1 21 rfl) ?_
            refine ev_get (v := .ref (m + 3)) (ev_dt dt_Md_reason_1 22 rfl) g_Md_17_10 hM9.1 rfl ?_
            refine ev_iload_5 (ev_dt dt_Md_reason_1 23 rfl) ?_
            refine ev_iald (f := A9 2) (ev_dt dt_Md_reason_1 24 rfl) hM9.a2 (by omega) (by decide) rfl ?_
            rw [hkA]
            refine ev_bipush (ev_dt dt_Md_reason_1 25 rfl) bi_9 ?_
            refine ev_icmp_neT (tgt := 173) (ev_dt dt_Md_reason_1 26 rfl) (by decide) (by rw [hk']; decide +kernel) ?_
            refine ev_iload_10 (ev_dt dt_Md_reason_1 33 rfl) ?_
            refine ev_if_eqT (tgt := 188) (ev_dt dt_Md_reason_1 34 rfl) (by decide) z00 ?_
            refine ev_aload_0 (ev_dt dt_Md_reason_1 40 rfl) ?_
            refine ev_get (v := .ref (m + 5)) (ev_dt dt_Md_reason_1 41 rfl) g_Md_23_10 hM9.1 rfl ?_
            refine ev_iload_5 (ev_dt dt_Md_reason_1 42 rfl) ?_
            refine ev_iald (f := A9 4) (ev_dt dt_Md_reason_1 43 rfl) hM9.a4 (by omega) (by decide) rfl ?_
            rw [hLl, tA']
            refine ev_istore_5 (ev_dt dt_Md_reason_1 44 rfl) (by decide) rfl ?_
            refine ev_inc1_8 (ev_dt dt_Md_reason_1 45 rfl) (by decide) rfl ?_
            refine ev_goto (tgt := 78) (ev_dt dt_Md_reason_1 46 rfl) (by decide) ?_
            have hnx : nx N (rV A u) (rV A v) i = nL N i := by unfold nx; rw [if_pos hk']; exact if_pos (nv.mp g1)
            rw [wk_t hk, if_neg (by omega), if_neg (by omega), hnx] at kE
            refine ev_less (ls' := [some (.ref m), none, none, none, some (.int q), some (.int (nI (nL N i))), some (.int (nI u)), some (.int (nI v)), some (.int (nI ((j + 1) + 1))), none, none, none]) (fun x y hxy => ?_) ?_
            · rcases x with _ | _ | _ | _ | _ | _ | _ | _ | _ | _ | _ | _ | x <;> first | exact hxy | (simp at hxy)
            exact ih (nL N i) (j + 1) u v _ _ (by omega) (by omega) (by omega) hu hv hA' hM9 hf9 (fun h' A' a b c => by have := kE h' A' a b c; rw [show j + 1 + (wk N f (rV A u) (rV A v) (nL N i)).2 = j + ((wk N f (rV A u) (rV A v) (nL N i)).2 + 1) by omega]; exact this)
        · refine ev_icmp_neT (tgt := 124) (ev_dt dt_Md_reason_1 4 rfl) (by decide) (by rw [hk']; decide +kernel) ?_
          refine ev_aload_0 (ev_dt dt_Md_reason_1 8 rfl) ?_
          refine ev_get (v := .ref (m + 3)) (ev_dt dt_Md_reason_1 9 rfl) g_Md_17_10 hM9.1 rfl ?_
          refine ev_iload_5 (ev_dt dt_Md_reason_1 10 rfl) ?_
          refine ev_iald (f := A9 2) (ev_dt dt_Md_reason_1 11 rfl) hM9.a2 (by omega) (by decide) rfl ?_
          rw [hkA]
          refine ev_bipush (ev_dt dt_Md_reason_1 12 rfl) bi_7 ?_
          refine ev_icmp_neF (tgt := 146) (ev_dt dt_Md_reason_1 13 rfl) (by decide) (by rw [hk']) ?_
          refine ev_iload_9 (ev_dt dt_Md_reason_1 14 rfl) ?_
          refine ev_ic3 (ev_dt dt_Md_reason_1 15 rfl) ?_
          refine ev_icmp_ne (tgt := 146) (ev_dt dt_Md_reason_1 16 rfl) (by decide) (fun g1 => ?_) (fun g1 => ?_)
          · refine ev_ic0 (ev_dt dt_Md_reason_1 19 rfl) ?_
            refine ev_istore_10 (ev_dt dt_Md_reason_1 20 rfl) (by decide) rfl ?_
            refine ev_aload_0 (ev_dt dt_Md_reason_1 21 rfl) ?_
            refine ev_get (v := .ref (m + 3)) (ev_dt dt_Md_reason_1 22 rfl) g_Md_17_10 hM9.1 rfl ?_
            refine ev_iload_5 (ev_dt dt_Md_reason_1 23 rfl) ?_
            refine ev_iald (f := A9 2) (ev_dt dt_Md_reason_1 24 rfl) hM9.a2 (by omega) (by decide) rfl ?_
            rw [hkA]
            refine ev_bipush (ev_dt dt_Md_reason_1 25 rfl) bi_9 ?_
            refine ev_icmp_neT (tgt := 173) (ev_dt dt_Md_reason_1 26 rfl) (by decide) (by rw [hk']; decide +kernel) ?_
            refine ev_iload_10 (ev_dt dt_Md_reason_1 33 rfl) ?_
            refine ev_if_eqT (tgt := 188) (ev_dt dt_Md_reason_1 34 rfl) (by decide) z00 ?_
            refine ev_aload_0 (ev_dt dt_Md_reason_1 40 rfl) ?_
            refine ev_get (v := .ref (m + 5)) (ev_dt dt_Md_reason_1 41 rfl) g_Md_23_10 hM9.1 rfl ?_
            refine ev_iload_5 (ev_dt dt_Md_reason_1 42 rfl) ?_
            refine ev_iald (f := A9 4) (ev_dt dt_Md_reason_1 43 rfl) hM9.a4 (by omega) (by decide) rfl ?_
            rw [hLl, tA']
            refine ev_istore_5 (ev_dt dt_Md_reason_1 44 rfl) (by decide) rfl ?_
            refine ev_inc1_8 (ev_dt dt_Md_reason_1 45 rfl) (by decide) rfl ?_
            refine ev_goto (tgt := 78) (ev_dt dt_Md_reason_1 46 rfl) (by decide) ?_
            have hnx : nx N (rV A u) (rV A v) i = nL N i := by unfold nx; rw [if_neg (by omega), if_pos hk']; exact if_neg (fun e => g1 (by rw [e]; rfl))
            rw [wk_t hk, if_neg (by omega), if_neg (by omega), hnx] at kE
            refine ev_less (ls' := [some (.ref m), none, none, none, some (.int q), some (.int (nI (nL N i))), some (.int (nI u)), some (.int (nI v)), some (.int (nI ((j + 1) + 1))), none, none, none]) (fun x y hxy => ?_) ?_
            · rcases x with _ | _ | _ | _ | _ | _ | _ | _ | _ | _ | _ | _ | x <;> first | exact hxy | (simp at hxy)
            exact ih (nL N i) (j + 1) u v _ _ (by omega) (by omega) (by omega) hu hv hA' hM9 hf9 (fun h' A' a b c => by have := kE h' A' a b c; rw [show j + 1 + (wk N f (rV A u) (rV A v) (nL N i)).2 = j + ((wk N f (rV A u) (rV A v) (nL N i)).2 + 1) by omega]; exact this)
          · refine ev_ic1 (ev_dt dt_Md_reason_1 17 rfl) ?_
            refine ev_goto (tgt := 147) (ev_dt dt_Md_reason_1 18 rfl) (by decide) ?_
            refine ev_istore_10 (ev_dt dt_Md_reason_1 20 rfl) (by decide) rfl ?_
            refine ev_aload_0 (ev_dt dt_Md_reason_1 21 rfl) ?_
            refine ev_get (v := .ref (m + 3)) (ev_dt dt_Md_reason_1 22 rfl) g_Md_17_10 hM9.1 rfl ?_
            refine ev_iload_5 (ev_dt dt_Md_reason_1 23 rfl) ?_
            refine ev_iald (f := A9 2) (ev_dt dt_Md_reason_1 24 rfl) hM9.a2 (by omega) (by decide) rfl ?_
            rw [hkA]
            refine ev_bipush (ev_dt dt_Md_reason_1 25 rfl) bi_9 ?_
            refine ev_icmp_neT (tgt := 173) (ev_dt dt_Md_reason_1 26 rfl) (by decide) (by rw [hk']; decide +kernel) ?_
            refine ev_iload_10 (ev_dt dt_Md_reason_1 33 rfl) ?_
            refine ev_if_eqF (tgt := 188) (ev_dt dt_Md_reason_1 34 rfl) (by decide) z10 ?_
            refine ev_aload_0 (ev_dt dt_Md_reason_1 35 rfl) ?_
            refine ev_get (v := .ref (m + 6)) (ev_dt dt_Md_reason_1 36 rfl) g_Md_26_10 hM9.1 rfl ?_
            refine ev_iload_5 (ev_dt dt_Md_reason_1 37 rfl) ?_
            refine ev_iald (f := A9 5) (ev_dt dt_Md_reason_1 38 rfl) hM9.a5 (by omega) (by decide) rfl ?_
            rw [hRr, tB']
            refine ev_goto (tgt := 195) (ev_dt dt_Md_reason_1 39 rfl) (by decide) ?_
            refine ev_istore_5 (ev_dt dt_Md_reason_1 44 rfl) (by decide) rfl ?_
            refine ev_inc1_8 (ev_dt dt_Md_reason_1 45 rfl) (by decide) rfl ?_
            refine ev_goto (tgt := 78) (ev_dt dt_Md_reason_1 46 rfl) (by decide) ?_
            have hnx : nx N (rV A u) (rV A v) i = nQ N i := by unfold nx; rw [if_neg (by omega), if_pos hk']; exact if_pos (nv.mp g1)
            rw [wk_t hk, if_neg (by omega), if_neg (by omega), hnx] at kE
            refine ev_less (ls' := [some (.ref m), none, none, none, some (.int q), some (.int (nI (nQ N i))), some (.int (nI u)), some (.int (nI v)), some (.int (nI ((j + 1) + 1))), none, none, none]) (fun x y hxy => ?_) ?_
            · rcases x with _ | _ | _ | _ | _ | _ | _ | _ | _ | _ | _ | _ | x <;> first | exact hxy | (simp at hxy)
            exact ih (nQ N i) (j + 1) u v _ _ (by omega) (by omega) (by omega) hu hv hA' hM9 hf9 (fun h' A' a b c => by have := kE h' A' a b c; rw [show j + 1 + (wk N f (rV A u) (rV A v) (nQ N i)).2 = j + ((wk N f (rV A u) (rV A v) (nQ N i)).2 + 1) by omega]; exact this)
        · refine ev_icmp_neT (tgt := 124) (ev_dt dt_Md_reason_1 4 rfl) (by decide) (by rw [hk']; decide +kernel) ?_
          refine ev_aload_0 (ev_dt dt_Md_reason_1 8 rfl) ?_
          refine ev_get (v := .ref (m + 3)) (ev_dt dt_Md_reason_1 9 rfl) g_Md_17_10 hM9.1 rfl ?_
          refine ev_iload_5 (ev_dt dt_Md_reason_1 10 rfl) ?_
          refine ev_iald (f := A9 2) (ev_dt dt_Md_reason_1 11 rfl) hM9.a2 (by omega) (by decide) rfl ?_
          rw [hkA]
          refine ev_bipush (ev_dt dt_Md_reason_1 12 rfl) bi_7 ?_
          refine ev_icmp_neT (tgt := 146) (ev_dt dt_Md_reason_1 13 rfl) (by decide) (by rw [hk']; decide +kernel) ?_
          refine ev_ic0 (ev_dt dt_Md_reason_1 19 rfl) ?_
          refine ev_istore_10 (ev_dt dt_Md_reason_1 20 rfl) (by decide) rfl ?_
          refine ev_aload_0 (ev_dt dt_Md_reason_1 21 rfl) ?_
          refine ev_get (v := .ref (m + 3)) (ev_dt dt_Md_reason_1 22 rfl) g_Md_17_10 hM9.1 rfl ?_
          refine ev_iload_5 (ev_dt dt_Md_reason_1 23 rfl) ?_
          refine ev_iald (f := A9 2) (ev_dt dt_Md_reason_1 24 rfl) hM9.a2 (by omega) (by decide) rfl ?_
          rw [hkA]
          refine ev_bipush (ev_dt dt_Md_reason_1 25 rfl) bi_9 ?_
          refine ev_icmp_neT (tgt := 173) (ev_dt dt_Md_reason_1 26 rfl) (by decide) (by rw [hk']; decide +kernel) ?_
          refine ev_iload_10 (ev_dt dt_Md_reason_1 33 rfl) ?_
          refine ev_if_eqT (tgt := 188) (ev_dt dt_Md_reason_1 34 rfl) (by decide) z00 ?_
          refine ev_aload_0 (ev_dt dt_Md_reason_1 40 rfl) ?_
          refine ev_get (v := .ref (m + 5)) (ev_dt dt_Md_reason_1 41 rfl) g_Md_23_10 hM9.1 rfl ?_
          refine ev_iload_5 (ev_dt dt_Md_reason_1 42 rfl) ?_
          refine ev_iald (f := A9 4) (ev_dt dt_Md_reason_1 43 rfl) hM9.a4 (by omega) (by decide) rfl ?_
          rw [hLl, tA']
          refine ev_istore_5 (ev_dt dt_Md_reason_1 44 rfl) (by decide) rfl ?_
          refine ev_inc1_8 (ev_dt dt_Md_reason_1 45 rfl) (by decide) rfl ?_
          refine ev_goto (tgt := 78) (ev_dt dt_Md_reason_1 46 rfl) (by decide) ?_
          have hnx : nx N (rV A u) (rV A v) i = nL N i := by unfold nx; rw [if_neg (by omega), if_neg (by omega)]
          rw [wk_t hk, if_neg (by omega), if_neg (by omega), hnx] at kE
          refine ev_less (ls' := [some (.ref m), none, none, none, some (.int q), some (.int (nI (nL N i))), some (.int (nI u)), some (.int (nI v)), some (.int (nI ((j + 1) + 1))), none, none, none]) (fun x y hxy => ?_) ?_
          · rcases x with _ | _ | _ | _ | _ | _ | _ | _ | _ | _ | _ | _ | x <;> first | exact hxy | (simp at hxy)
          exact ih (nL N i) (j + 1) u v _ _ (by omega) (by omega) (by omega) hu hv hA' hM9 hf9 (fun h' A' a b c => by have := kE h' A' a b c; rw [show j + 1 + (wk N f (rV A u) (rV A v) (nL N i)).2 = j + ((wk N f (rV A u) (rV A v) (nL N i)).2 + 1) by omega]; exact this)
        · refine ev_icmp_neT (tgt := 124) (ev_dt dt_Md_reason_1 4 rfl) (by decide) (by rw [hk']; decide +kernel) ?_
          refine ev_aload_0 (ev_dt dt_Md_reason_1 8 rfl) ?_
          refine ev_get (v := .ref (m + 3)) (ev_dt dt_Md_reason_1 9 rfl) g_Md_17_10 hM9.1 rfl ?_
          refine ev_iload_5 (ev_dt dt_Md_reason_1 10 rfl) ?_
          refine ev_iald (f := A9 2) (ev_dt dt_Md_reason_1 11 rfl) hM9.a2 (by omega) (by decide) rfl ?_
          rw [hkA]
          refine ev_bipush (ev_dt dt_Md_reason_1 12 rfl) bi_7 ?_
          refine ev_icmp_neT (tgt := 146) (ev_dt dt_Md_reason_1 13 rfl) (by decide) (by rw [hk']; decide +kernel) ?_
          refine ev_ic0 (ev_dt dt_Md_reason_1 19 rfl) ?_
          refine ev_istore_10 (ev_dt dt_Md_reason_1 20 rfl) (by decide) rfl ?_
          refine ev_aload_0 (ev_dt dt_Md_reason_1 21 rfl) ?_
          refine ev_get (v := .ref (m + 3)) (ev_dt dt_Md_reason_1 22 rfl) g_Md_17_10 hM9.1 rfl ?_
          refine ev_iload_5 (ev_dt dt_Md_reason_1 23 rfl) ?_
          refine ev_iald (f := A9 2) (ev_dt dt_Md_reason_1 24 rfl) hM9.a2 (by omega) (by decide) rfl ?_
          rw [hkA]
          refine ev_bipush (ev_dt dt_Md_reason_1 25 rfl) bi_9 ?_
          refine ev_icmp_neF (tgt := 173) (ev_dt dt_Md_reason_1 26 rfl) (by decide) (by rw [hk']) ?_
          refine ev_iload_6 (ev_dt dt_Md_reason_1 27 rfl) ?_
          refine ev_istore_11 (ev_dt dt_Md_reason_1 28 rfl) (by decide) rfl ?_
          refine ev_iload_7 (ev_dt dt_Md_reason_1 29 rfl) ?_
          refine ev_istore_6 (ev_dt dt_Md_reason_1 30 rfl) (by decide) rfl ?_
          refine ev_iload_11 (ev_dt dt_Md_reason_1 31 rfl) ?_
          refine ev_istore_7 (ev_dt dt_Md_reason_1 32 rfl) (by decide) rfl ?_
          refine ev_iload_10 (ev_dt dt_Md_reason_1 33 rfl) ?_
          refine ev_if_eqT (tgt := 188) (ev_dt dt_Md_reason_1 34 rfl) (by decide) z00 ?_
          refine ev_aload_0 (ev_dt dt_Md_reason_1 40 rfl) ?_
          refine ev_get (v := .ref (m + 5)) (ev_dt dt_Md_reason_1 41 rfl) g_Md_23_10 hM9.1 rfl ?_
          refine ev_iload_5 (ev_dt dt_Md_reason_1 42 rfl) ?_
          refine ev_iald (f := A9 4) (ev_dt dt_Md_reason_1 43 rfl) hM9.a4 (by omega) (by decide) rfl ?_
          rw [hLl, tA']
          refine ev_istore_5 (ev_dt dt_Md_reason_1 44 rfl) (by decide) rfl ?_
          refine ev_inc1_8 (ev_dt dt_Md_reason_1 45 rfl) (by decide) rfl ?_
          refine ev_goto (tgt := 78) (ev_dt dt_Md_reason_1 46 rfl) (by decide) ?_
          have hnx : nx N (rV A u) (rV A v) i = nL N i := by unfold nx; rw [if_neg (by omega), if_neg (by omega)]
          rw [wk_t hk, if_pos hk', if_pos hk', hnx] at kE
          refine ev_less (ls' := [some (.ref m), none, none, none, some (.int q), some (.int (nI (nL N i))), some (.int (nI v)), some (.int (nI u)), some (.int (nI ((j + 1) + 1))), none, none, none]) (fun x y hxy => ?_) ?_
          · rcases x with _ | _ | _ | _ | _ | _ | _ | _ | _ | _ | _ | _ | x <;> first | exact hxy | (simp at hxy)
          exact ih (nL N i) (j + 1) v u _ _ (by omega) (by omega) (by omega) hv hu hA' hM9 hf9 (fun h' A' a b c => by have := kE h' A' a b c; rw [show j + 1 + (wk N f (rV A v) (rV A u) (nL N i)).2 = j + ((wk N f (rV A v) (rV A u) (nL N i)).2 + 1) by omega]; exact this)
end R11
