/-! reducedOrder, in the reference (written by gen_r17.py over walk.py). -/
/-- what an order is, reduced -/
def qa (N : nod) (i : Nat) : Int32 := if nK N i = 2 ∨ nK N i = 3 then nA N i else if 3 < nK N i then nI i else nI 0
def qb (N : nod) (i : Nat) : Int32 := if nK N i = 3 then nB N i else nI 0
section R17
variable {E : ev_E} {d : Nat} {h : ev_h} {sz k n : Nat} {Q : ev_Q}
variable {m : Nat} {F : Nat → Nat} {A : Nat → Nat → Int32}
theorem r_reducedOrder {i : Nat} {nc : Nat} {N : nod} {ed : Nat → Nat → Int32} {zs : Nat → Nat} (hM : Rf E m F A h) (hN : RN A nc N ed zs) (hnc : nc ≤ 24) (hi : i < nc) (hk6 : nK N i < 6) (hF4 : F 4 < 100) (kt : ∀ j, j < F 4 → (A 20 j = (nI (nK N i)) ∧ A 21 j = (nI (nC N i)) ∧ A 22 j = (qa N i) ∧ A 23 j = (qb N i)) → Q (.returned (some (.int (nI j)))) h sz k n) (kf : (∀ j, j < F 4 → ¬ (A 20 j = (nI (nK N i)) ∧ A 21 j = (nI (nC N i)) ∧ A 22 j = (qa N i) ∧ A 23 j = (qb N i))) → ∀ v, v = nI 1 <<< (nI (nC N i) &&& 31) → ∀ h', Rf E m (uF F 4 (F 4 + 1)) (uA (uA (uA (uA (uA A 20 (F 4) (nI (nK N i))) 21 (F 4) (nI (nC N i))) 22 (F 4) (qa N i)) 23 (F 4) (qb N i)) 24 (F 4) v) h' → fR m h h' → Q (.returned (some (.int (nI (F 4))))) h' sz k n) : Ev E m_Md_reducedOrder (d + 1) 0 [some (.ref m), some (.int (nI i)), none, none] [] h sz k n Q := by
  obtain ⟨hk, -, hcl, hA, hB, -⟩ := hN i hi
  obtain ⟨hC, hc4⟩ := hcl hk6
  refine ev_aload_0 (ev_dt dt_Md_reducedOrder_0 0 rfl) ?_
  refine ev_get (v := .ref (m + 3)) (ev_dt dt_Md_reducedOrder_0 1 rfl) g_Md_17_10 hM.1 rfl ?_
  refine ev_iload_1 (ev_dt dt_Md_reducedOrder_0 2 rfl) ?_
  refine ev_iald (f := A 2) (ev_dt dt_Md_reducedOrder_0 3 rfl) hM.a2 (by omega) (by decide) rfl ?_
  rw [hk]
  refine ev_istore_2 (ev_dt dt_Md_reducedOrder_0 4 rfl) (by decide) rfl ?_
  refine ev_iload_2 (ev_dt dt_Md_reducedOrder_0 5 rfl) ?_
  refine ev_ic2 (ev_dt dt_Md_reducedOrder_0 6 rfl) ?_
  obtain hk' | hk' | hk' | hk' | hk' | hk' : nK N i = 0 ∨ nK N i = 1 ∨ nK N i = 2 ∨ nK N i = 3 ∨ nK N i = 4 ∨ nK N i = 5 := by omega
  · have hqa : qa N i = nI 0 := by unfold qa; rw [hk']; rfl
    have hqb : qb N i = nI 0 := by unfold qb; rw [hk']; rfl
    rw [hqa, hqb, hk'] at kt kf
    rw [hk']
    refine ev_icmp_eqF (tgt := 17) (ev_dt dt_Md_reducedOrder_0 7 rfl) (by decide) (by decide +kernel) ?_
    refine ev_iload_2 (ev_dt dt_Md_reducedOrder_0 8 rfl) ?_
    refine ev_ic3 (ev_dt dt_Md_reducedOrder_0 9 rfl) ?_
    refine ev_icmp_neT (tgt := 26) (ev_dt dt_Md_reducedOrder_0 10 rfl) (by decide) (by decide +kernel) ?_
    refine ev_iload_2 (ev_dt dt_Md_reducedOrder_0 16 rfl) ?_
    refine ev_ic3 (ev_dt dt_Md_reducedOrder_0 17 rfl) ?_
    refine ev_icmp_leT (tgt := 35) (ev_dt dt_Md_reducedOrder_0 18 rfl) (by decide) (by decide +kernel) ?_
    refine ev_ic0 (ev_dt dt_Md_reducedOrder_0 21 rfl) ?_
    refine ev_istore_3 (ev_dt dt_Md_reducedOrder_0 22 rfl) (by decide) rfl ?_
    refine ev_aload_0 (ev_dt dt_Md_reducedOrder_0 23 rfl) ?_
    refine ev_iload_2 (ev_dt dt_Md_reducedOrder_0 24 rfl) ?_
    refine ev_aload_0 (ev_dt dt_Md_reducedOrder_0 25 rfl) ?_
    refine ev_get (v := .ref (m + 4)) (ev_dt dt_Md_reducedOrder_0 26 rfl) g_Md_20_10 hM.1 rfl ?_
    refine ev_iload_1 (ev_dt dt_Md_reducedOrder_0 27 rfl) ?_
    refine ev_iald (f := A 3) (ev_dt dt_Md_reducedOrder_0 28 rfl) hM.a3 (by omega) (by decide) rfl ?_
    rw [hC]
    refine ev_iload_3 (ev_dt dt_Md_reducedOrder_0 29 rfl) ?_
    refine ev_iload_2 (ev_dt dt_Md_reducedOrder_0 30 rfl) ?_
    refine ev_ic3 (ev_dt dt_Md_reducedOrder_0 31 rfl) ?_
    refine ev_icmp_neT (tgt := 60) (ev_dt dt_Md_reducedOrder_0 32 rfl) (by decide) (by decide +kernel) ?_
    refine ev_ic0 (ev_dt dt_Md_reducedOrder_0 38 rfl) ?_
    refine ev_callV (ev_dt dt_Md_reducedOrder_0 39 rfl) v_Md_183_10 hM.1 [.int (nI 0), .int (nI (nC N i)), .int (nI 0), .int (nI 0)] rfl np_Md_place rfl (ev_lk_of (j := 1) rfl rfl) (r_place hM hF4 (fun e => absurd (by decide +kernel) e) (fun j hj e => ev_r1 (?_)) (fun hno v hv _ h' hM' hf' => ev_r1 (?_)))
    · exact ev_ireturn (ev_dt dt_Md_reducedOrder_0 40 rfl) rfl rfl (kt j hj e)
    · exact ev_ireturn (ev_dt dt_Md_reducedOrder_0 40 rfl) rfl rfl (kf hno v (hv (by decide +kernel)) h' hM' hf')
  · have hqa : qa N i = nI 0 := by unfold qa; rw [hk']; rfl
    have hqb : qb N i = nI 0 := by unfold qb; rw [hk']; rfl
    rw [hqa, hqb, hk'] at kt kf
    rw [hk']
    refine ev_icmp_eqF (tgt := 17) (ev_dt dt_Md_reducedOrder_0 7 rfl) (by decide) (by decide +kernel) ?_
    refine ev_iload_2 (ev_dt dt_Md_reducedOrder_0 8 rfl) ?_
    refine ev_ic3 (ev_dt dt_Md_reducedOrder_0 9 rfl) ?_
    refine ev_icmp_neT (tgt := 26) (ev_dt dt_Md_reducedOrder_0 10 rfl) (by decide) (by decide +kernel) ?_
    refine ev_iload_2 (ev_dt dt_Md_reducedOrder_0 16 rfl) ?_
    refine ev_ic3 (ev_dt dt_Md_reducedOrder_0 17 rfl) ?_
    refine ev_icmp_leT (tgt := 35) (ev_dt dt_Md_reducedOrder_0 18 rfl) (by decide) (by decide +kernel) ?_
    refine ev_ic0 (ev_dt dt_Md_reducedOrder_0 21 rfl) ?_
    refine ev_istore_3 (ev_dt dt_Md_reducedOrder_0 22 rfl) (by decide) rfl ?_
    refine ev_aload_0 (ev_dt dt_Md_reducedOrder_0 23 rfl) ?_
    refine ev_iload_2 (ev_dt dt_Md_reducedOrder_0 24 rfl) ?_
    refine ev_aload_0 (ev_dt dt_Md_reducedOrder_0 25 rfl) ?_
    refine ev_get (v := .ref (m + 4)) (ev_dt dt_Md_reducedOrder_0 26 rfl) g_Md_20_10 hM.1 rfl ?_
    refine ev_iload_1 (ev_dt dt_Md_reducedOrder_0 27 rfl) ?_
    refine ev_iald (f := A 3) (ev_dt dt_Md_reducedOrder_0 28 rfl) hM.a3 (by omega) (by decide) rfl ?_
    rw [hC]
    refine ev_iload_3 (ev_dt dt_Md_reducedOrder_0 29 rfl) ?_
    refine ev_iload_2 (ev_dt dt_Md_reducedOrder_0 30 rfl) ?_
    refine ev_ic3 (ev_dt dt_Md_reducedOrder_0 31 rfl) ?_
    refine ev_icmp_neT (tgt := 60) (ev_dt dt_Md_reducedOrder_0 32 rfl) (by decide) (by decide +kernel) ?_
    refine ev_ic0 (ev_dt dt_Md_reducedOrder_0 38 rfl) ?_
    refine ev_callV (ev_dt dt_Md_reducedOrder_0 39 rfl) v_Md_183_10 hM.1 [.int (nI 1), .int (nI (nC N i)), .int (nI 0), .int (nI 0)] rfl np_Md_place rfl (ev_lk_of (j := 1) rfl rfl) (r_place hM hF4 (fun e => absurd (by decide +kernel) e) (fun j hj e => ev_r1 (?_)) (fun hno v hv _ h' hM' hf' => ev_r1 (?_)))
    · exact ev_ireturn (ev_dt dt_Md_reducedOrder_0 40 rfl) rfl rfl (kt j hj e)
    · exact ev_ireturn (ev_dt dt_Md_reducedOrder_0 40 rfl) rfl rfl (kf hno v (hv (by decide +kernel)) h' hM' hf')
  · have hqa : qa N i = nA N i := by unfold qa; rw [hk']; rfl
    have hqb : qb N i = nI 0 := by unfold qb; rw [hk']; rfl
    rw [hqa, hqb, hk'] at kt kf
    rw [hk']
    refine ev_icmp_eqT (tgt := 17) (ev_dt dt_Md_reducedOrder_0 7 rfl) (by decide) (by decide +kernel) ?_
    refine ev_aload_0 (ev_dt dt_Md_reducedOrder_0 11 rfl) ?_
    refine ev_get (v := .ref (m + 5)) (ev_dt dt_Md_reducedOrder_0 12 rfl) g_Md_23_10 hM.1 rfl ?_
    refine ev_iload_1 (ev_dt dt_Md_reducedOrder_0 13 rfl) ?_
    refine ev_iald (f := A 4) (ev_dt dt_Md_reducedOrder_0 14 rfl) hM.a4 (by omega) (by decide) rfl ?_
    rw [hA]
    refine ev_goto (tgt := 36) (ev_dt dt_Md_reducedOrder_0 15 rfl) (by decide) ?_
    refine ev_istore_3 (ev_dt dt_Md_reducedOrder_0 22 rfl) (by decide) rfl ?_
    refine ev_aload_0 (ev_dt dt_Md_reducedOrder_0 23 rfl) ?_
    refine ev_iload_2 (ev_dt dt_Md_reducedOrder_0 24 rfl) ?_
    refine ev_aload_0 (ev_dt dt_Md_reducedOrder_0 25 rfl) ?_
    refine ev_get (v := .ref (m + 4)) (ev_dt dt_Md_reducedOrder_0 26 rfl) g_Md_20_10 hM.1 rfl ?_
    refine ev_iload_1 (ev_dt dt_Md_reducedOrder_0 27 rfl) ?_
    refine ev_iald (f := A 3) (ev_dt dt_Md_reducedOrder_0 28 rfl) hM.a3 (by omega) (by decide) rfl ?_
    rw [hC]
    refine ev_iload_3 (ev_dt dt_Md_reducedOrder_0 29 rfl) ?_
    refine ev_iload_2 (ev_dt dt_Md_reducedOrder_0 30 rfl) ?_
    refine ev_ic3 (ev_dt dt_Md_reducedOrder_0 31 rfl) ?_
    refine ev_icmp_neT (tgt := 60) (ev_dt dt_Md_reducedOrder_0 32 rfl) (by decide) (by decide +kernel) ?_
    refine ev_ic0 (ev_dt dt_Md_reducedOrder_0 38 rfl) ?_
    refine ev_callV (ev_dt dt_Md_reducedOrder_0 39 rfl) v_Md_183_10 hM.1 [.int (nI 2), .int (nI (nC N i)), .int (nA N i), .int (nI 0)] rfl np_Md_place rfl (ev_lk_of (j := 1) rfl rfl) (r_place hM hF4 (fun e => absurd (by decide +kernel) e) (fun j hj e => ev_r1 (?_)) (fun hno v hv _ h' hM' hf' => ev_r1 (?_)))
    · exact ev_ireturn (ev_dt dt_Md_reducedOrder_0 40 rfl) rfl rfl (kt j hj e)
    · exact ev_ireturn (ev_dt dt_Md_reducedOrder_0 40 rfl) rfl rfl (kf hno v (hv (by decide +kernel)) h' hM' hf')
  · have hqa : qa N i = nA N i := by unfold qa; rw [hk']; rfl
    have hqb : qb N i = nB N i := by unfold qb; rw [hk']; rfl
    rw [hqa, hqb, hk'] at kt kf
    rw [hk']
    refine ev_icmp_eqF (tgt := 17) (ev_dt dt_Md_reducedOrder_0 7 rfl) (by decide) (by decide +kernel) ?_
    refine ev_iload_2 (ev_dt dt_Md_reducedOrder_0 8 rfl) ?_
    refine ev_ic3 (ev_dt dt_Md_reducedOrder_0 9 rfl) ?_
    refine ev_icmp_neF (tgt := 26) (ev_dt dt_Md_reducedOrder_0 10 rfl) (by decide) (by decide +kernel) ?_
    refine ev_aload_0 (ev_dt dt_Md_reducedOrder_0 11 rfl) ?_
    refine ev_get (v := .ref (m + 5)) (ev_dt dt_Md_reducedOrder_0 12 rfl) g_Md_23_10 hM.1 rfl ?_
    refine ev_iload_1 (ev_dt dt_Md_reducedOrder_0 13 rfl) ?_
    refine ev_iald (f := A 4) (ev_dt dt_Md_reducedOrder_0 14 rfl) hM.a4 (by omega) (by decide) rfl ?_
    rw [hA]
    refine ev_goto (tgt := 36) (ev_dt dt_Md_reducedOrder_0 15 rfl) (by decide) ?_
    refine ev_istore_3 (ev_dt dt_Md_reducedOrder_0 22 rfl) (by decide) rfl ?_
    refine ev_aload_0 (ev_dt dt_Md_reducedOrder_0 23 rfl) ?_
    refine ev_iload_2 (ev_dt dt_Md_reducedOrder_0 24 rfl) ?_
    refine ev_aload_0 (ev_dt dt_Md_reducedOrder_0 25 rfl) ?_
    refine ev_get (v := .ref (m + 4)) (ev_dt dt_Md_reducedOrder_0 26 rfl) g_Md_20_10 hM.1 rfl ?_
    refine ev_iload_1 (ev_dt dt_Md_reducedOrder_0 27 rfl) ?_
    refine ev_iald (f := A 3) (ev_dt dt_Md_reducedOrder_0 28 rfl) hM.a3 (by omega) (by decide) rfl ?_
    rw [hC]
    refine ev_iload_3 (ev_dt dt_Md_reducedOrder_0 29 rfl) ?_
    refine ev_iload_2 (ev_dt dt_Md_reducedOrder_0 30 rfl) ?_
    refine ev_ic3 (ev_dt dt_Md_reducedOrder_0 31 rfl) ?_
    refine ev_icmp_neF (tgt := 60) (ev_dt dt_Md_reducedOrder_0 32 rfl) (by decide) (by decide +kernel) ?_
    refine ev_aload_0 (ev_dt dt_Md_reducedOrder_0 33 rfl) ?_
    refine ev_get (v := .ref (m + 6)) (ev_dt dt_Md_reducedOrder_0 34 rfl) g_Md_26_10 hM.1 rfl ?_
    refine ev_iload_1 (ev_dt dt_Md_reducedOrder_0 35 rfl) ?_
    refine ev_iald (f := A 5) (ev_dt dt_Md_reducedOrder_0 36 rfl) hM.a5 (by omega) (by decide) rfl ?_
    rw [hB]
    refine ev_goto (tgt := 61) (ev_dt dt_Md_reducedOrder_0 37 rfl) (by decide) ?_
    refine ev_callV (ev_dt dt_Md_reducedOrder_0 39 rfl) v_Md_183_10 hM.1 [.int (nI 3), .int (nI (nC N i)), .int (nA N i), .int (nB N i)] rfl np_Md_place rfl (ev_lk_of (j := 1) rfl rfl) (r_place hM hF4 (fun e => absurd (by decide +kernel) e) (fun j hj e => ev_r1 (?_)) (fun hno v hv _ h' hM' hf' => ev_r1 (?_)))
    · exact ev_ireturn (ev_dt dt_Md_reducedOrder_0 40 rfl) rfl rfl (kt j hj e)
    · exact ev_ireturn (ev_dt dt_Md_reducedOrder_0 40 rfl) rfl rfl (kf hno v (hv (by decide +kernel)) h' hM' hf')
  · have hqa : qa N i = nI i := by unfold qa; rw [hk']; rfl
    have hqb : qb N i = nI 0 := by unfold qb; rw [hk']; rfl
    rw [hqa, hqb, hk'] at kt kf
    rw [hk']
    refine ev_icmp_eqF (tgt := 17) (ev_dt dt_Md_reducedOrder_0 7 rfl) (by decide) (by decide +kernel) ?_
    refine ev_iload_2 (ev_dt dt_Md_reducedOrder_0 8 rfl) ?_
    refine ev_ic3 (ev_dt dt_Md_reducedOrder_0 9 rfl) ?_
    refine ev_icmp_neT (tgt := 26) (ev_dt dt_Md_reducedOrder_0 10 rfl) (by decide) (by decide +kernel) ?_
    refine ev_iload_2 (ev_dt dt_Md_reducedOrder_0 16 rfl) ?_
    refine ev_ic3 (ev_dt dt_Md_reducedOrder_0 17 rfl) ?_
    refine ev_icmp_leF (tgt := 35) (ev_dt dt_Md_reducedOrder_0 18 rfl) (by decide) (by decide +kernel) ?_
    refine ev_iload_1 (ev_dt dt_Md_reducedOrder_0 19 rfl) ?_
    refine ev_goto (tgt := 36) (ev_dt dt_Md_reducedOrder_0 20 rfl) (by decide) ?_
    refine ev_istore_3 (ev_dt dt_Md_reducedOrder_0 22 rfl) (by decide) rfl ?_
    refine ev_aload_0 (ev_dt dt_Md_reducedOrder_0 23 rfl) ?_
    refine ev_iload_2 (ev_dt dt_Md_reducedOrder_0 24 rfl) ?_
    refine ev_aload_0 (ev_dt dt_Md_reducedOrder_0 25 rfl) ?_
    refine ev_get (v := .ref (m + 4)) (ev_dt dt_Md_reducedOrder_0 26 rfl) g_Md_20_10 hM.1 rfl ?_
    refine ev_iload_1 (ev_dt dt_Md_reducedOrder_0 27 rfl) ?_
    refine ev_iald (f := A 3) (ev_dt dt_Md_reducedOrder_0 28 rfl) hM.a3 (by omega) (by decide) rfl ?_
    rw [hC]
    refine ev_iload_3 (ev_dt dt_Md_reducedOrder_0 29 rfl) ?_
    refine ev_iload_2 (ev_dt dt_Md_reducedOrder_0 30 rfl) ?_
    refine ev_ic3 (ev_dt dt_Md_reducedOrder_0 31 rfl) ?_
    refine ev_icmp_neT (tgt := 60) (ev_dt dt_Md_reducedOrder_0 32 rfl) (by decide) (by decide +kernel) ?_
    refine ev_ic0 (ev_dt dt_Md_reducedOrder_0 38 rfl) ?_
    refine ev_callV (ev_dt dt_Md_reducedOrder_0 39 rfl) v_Md_183_10 hM.1 [.int (nI 4), .int (nI (nC N i)), .int (nI i), .int (nI 0)] rfl np_Md_place rfl (ev_lk_of (j := 1) rfl rfl) (r_place hM hF4 (fun e => absurd (by decide +kernel) e) (fun j hj e => ev_r1 (?_)) (fun hno v hv _ h' hM' hf' => ev_r1 (?_)))
    · exact ev_ireturn (ev_dt dt_Md_reducedOrder_0 40 rfl) rfl rfl (kt j hj e)
    · exact ev_ireturn (ev_dt dt_Md_reducedOrder_0 40 rfl) rfl rfl (kf hno v (hv (by decide +kernel)) h' hM' hf')
  · have hqa : qa N i = nI i := by unfold qa; rw [hk']; rfl
    have hqb : qb N i = nI 0 := by unfold qb; rw [hk']; rfl
    rw [hqa, hqb, hk'] at kt kf
    rw [hk']
    refine ev_icmp_eqF (tgt := 17) (ev_dt dt_Md_reducedOrder_0 7 rfl) (by decide) (by decide +kernel) ?_
    refine ev_iload_2 (ev_dt dt_Md_reducedOrder_0 8 rfl) ?_
    refine ev_ic3 (ev_dt dt_Md_reducedOrder_0 9 rfl) ?_
    refine ev_icmp_neT (tgt := 26) (ev_dt dt_Md_reducedOrder_0 10 rfl) (by decide) (by decide +kernel) ?_
    refine ev_iload_2 (ev_dt dt_Md_reducedOrder_0 16 rfl) ?_
    refine ev_ic3 (ev_dt dt_Md_reducedOrder_0 17 rfl) ?_
    refine ev_icmp_leF (tgt := 35) (ev_dt dt_Md_reducedOrder_0 18 rfl) (by decide) (by decide +kernel) ?_
    refine ev_iload_1 (ev_dt dt_Md_reducedOrder_0 19 rfl) ?_
    refine ev_goto (tgt := 36) (ev_dt dt_Md_reducedOrder_0 20 rfl) (by decide) ?_
    refine ev_istore_3 (ev_dt dt_Md_reducedOrder_0 22 rfl) (by decide) rfl ?_
    refine ev_aload_0 (ev_dt dt_Md_reducedOrder_0 23 rfl) ?_
    refine ev_iload_2 (ev_dt dt_Md_reducedOrder_0 24 rfl) ?_
    refine ev_aload_0 (ev_dt dt_Md_reducedOrder_0 25 rfl) ?_
    refine ev_get (v := .ref (m + 4)) (ev_dt dt_Md_reducedOrder_0 26 rfl) g_Md_20_10 hM.1 rfl ?_
    refine ev_iload_1 (ev_dt dt_Md_reducedOrder_0 27 rfl) ?_
    refine ev_iald (f := A 3) (ev_dt dt_Md_reducedOrder_0 28 rfl) hM.a3 (by omega) (by decide) rfl ?_
    rw [hC]
    refine ev_iload_3 (ev_dt dt_Md_reducedOrder_0 29 rfl) ?_
    refine ev_iload_2 (ev_dt dt_Md_reducedOrder_0 30 rfl) ?_
    refine ev_ic3 (ev_dt dt_Md_reducedOrder_0 31 rfl) ?_
    refine ev_icmp_neT (tgt := 60) (ev_dt dt_Md_reducedOrder_0 32 rfl) (by decide) (by decide +kernel) ?_
    refine ev_ic0 (ev_dt dt_Md_reducedOrder_0 38 rfl) ?_
    refine ev_callV (ev_dt dt_Md_reducedOrder_0 39 rfl) v_Md_183_10 hM.1 [.int (nI 5), .int (nI (nC N i)), .int (nI i), .int (nI 0)] rfl np_Md_place rfl (ev_lk_of (j := 1) rfl rfl) (r_place hM hF4 (fun e => absurd (by decide +kernel) e) (fun j hj e => ev_r1 (?_)) (fun hno v hv _ h' hM' hf' => ev_r1 (?_)))
    · exact ev_ireturn (ev_dt dt_Md_reducedOrder_0 40 rfl) rfl rfl (kt j hj e)
    · exact ev_ireturn (ev_dt dt_Md_reducedOrder_0 40 rfl) rfl rfl (kf hno v (hv (by decide +kernel)) h' hM' hf')
end R17
