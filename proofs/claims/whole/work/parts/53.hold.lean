/-! The contest is held (written by gen_c4.py over walk.py). -/
theorem NdAt.kept {E : ev_E} {N : nod} {ed : Nat → Nat → Int32} {zs : Nat → Nat} {cs : Nat → Int32} {ad : Nat → Nat} {i : Nat} {h h' : ev_h} (hN : NdAt E N ed zs cs ad i h) (hq : ∀ z, ad i ≤ z → z < ad i + 3 → h' z = h z) : NdAt E N ed zs cs ad i h' := by
  have e0 := hq (ad i) (by omega) (by omega)
  have e1 := hq (ad i + 1) (by omega) (by omega)
  have e2 := hq (ad i + 2) (by omega) (by omega)
  rcases hN with ⟨a, b, c⟩ | ⟨a, b, c, e⟩ | ⟨a, b, c, e, f⟩ | ⟨a, b, c, e, f⟩
  · exact Or.inl ⟨a, b, e0.trans c⟩
  · exact Or.inr (Or.inl ⟨a, b, e0.trans c, e1.trans e⟩)
  · exact Or.inr (Or.inr (Or.inl ⟨a, b, e0.trans c, e1.trans e, e2.trans f⟩))
  · exact Or.inr (Or.inr (Or.inr ⟨a, b, c, e, e0.trans f⟩))
section C4
variable {E : ev_E} {d : Nat} {h : ev_h} {sz k n : Nat} {Q : ev_Q}
theorem t_Contest_letIn {r c m : Nat} {nu : Nat → Int32} {V : Nat → Nat → Int32} {q : Nat} {pm : Int32} {be le : Nat → Int32} {a cc : Nat} {on op th : Nat → Int32} {cn co : Nat → Nat} {ps : Nat → Bool} (hc : c ≤ 24) (hR : RwAt E r c m nu V h) (hC : CtAt E q pm be le h) (hcc : cc ≤ 4) (hL : CdAt E a cc on op th h) (hon : ∀ i, i < cc → on i = nI (cn i) ∧ cn i < 4) (hop : ∀ i, i < cc → op i = nI (co i) ∧ co i < 6) (hps : ∀ i, i < c → (ps i = true ↔ okC cc cn co th (V i))) (hrq : r + 27 ≤ q) (haq : a + 4 ≤ q ∨ q + 3 ≤ a) (kk : ∀ h' pm' be', CtAt E q pm' be' le h' → fI q 3 h h' → (∀ i, i < 32 → bt pm' i = decide (i < c ∧ ps i = true)) → (∀ i, i < c → be' i = nI 0) → Q (.returned none) h' sz k n) : Ev E m_Contest_letIn (d + 2) 0 [some (.ref q), some (.ref r), some (.ref a), none] [] h sz k n Q := by
  have loop : ∀ m' j h' pm' be', j + m' = c → CtAt E q pm' be' le h' → fI q 3 h h' → RwAt E r c m nu V h' → (∀ i, i < 32 → bt pm' i = decide (i < j ∧ ps i = true)) → (∀ i, i < j → be' i = nI 0) → Ev E m_Contest_letIn (d + 2) 7 [some (.ref q), some (.ref r), some (.ref a), some (.int (nI j))] [] h' sz k n Q := by
    intro m'
    induction m' with
    | zero =>
      intro j h' pm' be' hj hC hF hR' hP hB
      refine ev_iload_3 (ev_dt dt_Contest_letIn_0 5 rfl) ?_
      refine ev_aload_1 (ev_dt dt_Contest_letIn_0 6 rfl) ?_
      refine ev_get (ev_dt dt_Contest_letIn_0 7 rfl) g_Contest_26_1 hR'.1 rfl ?_
      refine ev_icmp_geT (tgt := 53) (ev_dt dt_Contest_letIn_0 8 rfl) (by decide) (nI_le (by omega) (by omega)) ?_
      obtain rfl : j = c := by omega
      exact ev_return (ev_dt dt_Contest_letIn_0 31 rfl) rfl (kk h' pm' be' hC hF hP hB)
    | succ m' ih =>
      intro j h' pm' be' hj hC hF hR' hP hB
      refine ev_iload_3 (ev_dt dt_Contest_letIn_0 5 rfl) ?_
      refine ev_aload_1 (ev_dt dt_Contest_letIn_0 6 rfl) ?_
      refine ev_get (ev_dt dt_Contest_letIn_0 7 rfl) g_Contest_26_1 hR'.1 rfl ?_
      refine ev_icmp_geF (tgt := 53) (ev_dt dt_Contest_letIn_0 8 rfl) (by decide) (nI_ge (by omega) (by omega)) ?_
      refine ev_aload_0 (ev_dt dt_Contest_letIn_0 9 rfl) ?_
      refine ev_get (ev_dt dt_Contest_letIn_0 10 rfl) g_Contest_9_5 hC.1 rfl ?_
      refine ev_iload_3 (ev_dt dt_Contest_letIn_0 11 rfl) ?_
      refine ev_ic0 (ev_dt dt_Contest_letIn_0 12 rfl) ?_
      refine ev_iast (ev_dt dt_Contest_letIn_0 13 rfl) hC.2.1 (by omega) (by decide) ?_
      obtain ⟨hC1, hF1⟩ := hC.setB (upd be' j (nI 0))
      have hF2 := hF.tr hF1
      have hR1 : RwAt E r c m nu V _ := hR.kept (h' := ev_up h' (q + 1) (iA E 24 (upd be' j (nI 0)))) (fun z h1 h2 => hF2 z (by omega))
      have hL1 : CdAt E a cc on op th _ := hL.kept (h' := ev_up h' (q + 1) (iA E 24 (upd be' j (nI 0)))) (fun z h1 h2 => hF2 z (by omega))
      have hB1 : ∀ i, i < j + 1 → upd be' j (nI 0) i = nI 0 := fun i hi => by
        by_cases e : i = j
        · subst e; exact pk_us
        · rw [pk_un e]; exact hB i (by omega)
      generalize ev_up h' (q + 1) (iA E 24 (upd be' j (nI 0))) = h1 at hC1 hF1 hF2 hR1 hL1 ⊢
      generalize upd be' j (nI 0) = be1 at hC1 hB1
      refine ev_aload_2 (ev_dt dt_Contest_letIn_0 14 rfl) ?_
      refine ev_aload_1 (ev_dt dt_Contest_letIn_0 15 rfl) ?_
      refine ev_get (ev_dt dt_Contest_letIn_0 16 rfl) g_Contest_35_1 hR1.1 rfl ?_
      refine ev_iload_3 (ev_dt dt_Contest_letIn_0 17 rfl) ?_
      refine ev_aald (t := 5) (ev_dt dt_Contest_letIn_0 18 rfl) rfl rfl hR1.2.2.1 (by omega) (by decide) (rw_v (by omega)) ?_
      refine ev_callV (ev_dt dt_Contest_letIn_0 19 rfl) v_Contest_49_3 hL1.1 [.ref (r + 3 + j)] rfl np_Conditions_pass rfl (ev_lk_of (j := 1) rfl rfl) (t_Conditions_pass hcc hL1 (hR1.2.2.2 j (by omega)) hon hop (fun hx => ev_r1 ?_) (fun hx => ev_r1 ?_))
      · refine ev_if_eqF (tgt := 47) (ev_dt dt_Contest_letIn_0 20 rfl) (by decide) z10 ?_
        refine ev_aload_0 (ev_dt dt_Contest_letIn_0 21 rfl) ?_
        refine ev_dup (ev_dt dt_Contest_letIn_0 22 rfl) rfl ?_
        refine ev_get (ev_dt dt_Contest_letIn_0 23 rfl) g_Contest_18_5 hC1.1 rfl ?_
        refine ev_ic1 (ev_dt dt_Contest_letIn_0 24 rfl) ?_
        refine ev_iload_3 (ev_dt dt_Contest_letIn_0 25 rfl) ?_
        refine ev_ishl (ev_dt dt_Contest_letIn_0 26 rfl) rfl ?_
        refine ev_ior (ev_dt dt_Contest_letIn_0 27 rfl) rfl ?_
        refine ev_put [.ref (q + 1), .ref (q + 2), .int (pm' ||| ((nI 1) <<< ((nI j) &&& 31)))] (ev_dt dt_Contest_letIn_0 28 rfl) p_Contest_18_5 hC1.1 rfl rfl rfl rfl ?_
        refine ev_inc1_3 (ev_dt dt_Contest_letIn_0 29 rfl) (by decide) rfl ?_
        refine ev_goto (tgt := 7) (ev_dt dt_Contest_letIn_0 30 rfl) (by decide) ?_
        obtain ⟨hC2, hF3⟩ := hC1.setP (pm' ||| nI 1 <<< (nI j &&& 31))
        exact ih (j + 1) _ _ _ (by omega) hC2 (hF2.tr hF3) (hR1.kept (fun z h1 h2 => hF3 z (by omega))) (fun i hi => by
          rw [b_or, q_sh1 (by omega) hi, hP i hi]
          by_cases e : i = j
          · subst e; simp [(hps i (by omega)).mpr hx]
          · simp only [e, decide_false, Bool.or_false, show (i < j + 1) = (i < j) by apply propext; constructor <;> omega]) hB1
      · refine ev_if_eqT (tgt := 47) (ev_dt dt_Contest_letIn_0 20 rfl) (by decide) z00 ?_
        refine ev_inc1_3 (ev_dt dt_Contest_letIn_0 29 rfl) (by decide) rfl ?_
        refine ev_goto (tgt := 7) (ev_dt dt_Contest_letIn_0 30 rfl) (by decide) ?_
        exact ih (j + 1) _ _ _ (by omega) hC1 hF2 hR1 (fun i hi => by
          rw [hP i hi]
          by_cases e : i = j
          · subst e; have : ps i ≠ true := fun e => hx ((hps i (by omega)).mp e); simp [this]
          · simp only [show (i < j + 1) = (i < j) by apply propext; constructor <;> omega]) hB1
  refine ev_aload_0 (ev_dt dt_Contest_letIn_0 0 rfl) ?_
  refine ev_ic0 (ev_dt dt_Contest_letIn_0 1 rfl) ?_
  refine ev_put [.ref (q + 1), .ref (q + 2), .int (nI 0)] (ev_dt dt_Contest_letIn_0 2 rfl) p_Contest_18_5 hC.1 rfl rfl rfl rfl ?_
  refine ev_ic0 (ev_dt dt_Contest_letIn_0 3 rfl) ?_
  refine ev_istore_3 (ev_dt dt_Contest_letIn_0 4 rfl) (by decide) rfl ?_
  obtain ⟨hC2, hF3⟩ := hC.setP (nI 0)
  exact loop c 0 _ _ _ (by omega) hC2 hF3 (hR.kept (fun z h1 h2 => hF3 z (by omega))) (fun i hi => by rw [q_0]; simp) (fun i hi => absurd hi (Nat.not_lt_zero _))
theorem t_Contest_note {q i j : Nat} {pm : Int32} {be le : Nat → Int32} {v : Fin 4} (hi : i < 24) (hj : j < 24) (hC : CtAt E q pm be le h) (kk : ∀ h' be', CtAt E q pm be' le h' → fI q 3 h h' → be' = (if v = 1 then upd be j (be j ||| nI 1 <<< (nI i &&& 31)) else if v = 2 then upd be i (be i ||| nI 1 <<< (nI j &&& 31)) else be) → Q (.returned none) h' sz k n) : Ev E m_Contest_note d 0 [some (.ref q), some (.int (nI i)), some (.int (nI j)), some (.int (nI v.val))] [] h sz k n Q := by
  obtain rfl | rfl | rfl | rfl := fin4 v
  · refine ev_iload_3 (ev_dt dt_Contest_note_0 0 rfl) ?_
    refine ev_ic1 (ev_dt dt_Contest_note_0 1 rfl) ?_
    refine ev_icmp_neT (tgt := 20) (ev_dt dt_Contest_note_0 2 rfl) (by decide) (by decide +kernel) ?_
    refine ev_iload_3 (ev_dt dt_Contest_note_0 14 rfl) ?_
    refine ev_ic2 (ev_dt dt_Contest_note_0 15 rfl) ?_
    refine ev_icmp_neT (tgt := 37) (ev_dt dt_Contest_note_0 16 rfl) (by decide) (by decide +kernel) ?_
    exact ev_return (ev_dt dt_Contest_note_0 27 rfl) rfl (kk h be hC fI.rf rfl)
  · refine ev_iload_3 (ev_dt dt_Contest_note_0 0 rfl) ?_
    refine ev_ic1 (ev_dt dt_Contest_note_0 1 rfl) ?_
    refine ev_icmp_neF (tgt := 20) (ev_dt dt_Contest_note_0 2 rfl) (by decide) (by decide +kernel) ?_
    refine ev_aload_0 (ev_dt dt_Contest_note_0 3 rfl) ?_
    refine ev_get (ev_dt dt_Contest_note_0 4 rfl) g_Contest_9_5 hC.1 rfl ?_
    refine ev_iload_2 (ev_dt dt_Contest_note_0 5 rfl) ?_
    refine ev_dup2 (ev_dt dt_Contest_note_0 6 rfl) rfl rfl ?_
    refine ev_iald (ev_dt dt_Contest_note_0 7 rfl) hC.2.1 (by omega) (by decide) rfl ?_
    refine ev_ic1 (ev_dt dt_Contest_note_0 8 rfl) ?_
    refine ev_iload_1 (ev_dt dt_Contest_note_0 9 rfl) ?_
    refine ev_ishl (ev_dt dt_Contest_note_0 10 rfl) rfl ?_
    refine ev_ior (ev_dt dt_Contest_note_0 11 rfl) rfl ?_
    refine ev_iast (ev_dt dt_Contest_note_0 12 rfl) hC.2.1 (by omega) (by decide) ?_
    refine ev_goto (tgt := 37) (ev_dt dt_Contest_note_0 13 rfl) (by decide) ?_
    obtain ⟨hC1, hF1⟩ := hC.setB (upd be j (be j ||| nI 1 <<< (nI i &&& 31)))
    exact ev_return (ev_dt dt_Contest_note_0 27 rfl) rfl (kk _ _ hC1 hF1 rfl)
  · refine ev_iload_3 (ev_dt dt_Contest_note_0 0 rfl) ?_
    refine ev_ic1 (ev_dt dt_Contest_note_0 1 rfl) ?_
    refine ev_icmp_neT (tgt := 20) (ev_dt dt_Contest_note_0 2 rfl) (by decide) (by decide +kernel) ?_
    refine ev_iload_3 (ev_dt dt_Contest_note_0 14 rfl) ?_
    refine ev_ic2 (ev_dt dt_Contest_note_0 15 rfl) ?_
    refine ev_icmp_neF (tgt := 37) (ev_dt dt_Contest_note_0 16 rfl) (by decide) (by decide +kernel) ?_
    refine ev_aload_0 (ev_dt dt_Contest_note_0 17 rfl) ?_
    refine ev_get (ev_dt dt_Contest_note_0 18 rfl) g_Contest_9_5 hC.1 rfl ?_
    refine ev_iload_1 (ev_dt dt_Contest_note_0 19 rfl) ?_
    refine ev_dup2 (ev_dt dt_Contest_note_0 20 rfl) rfl rfl ?_
    refine ev_iald (ev_dt dt_Contest_note_0 21 rfl) hC.2.1 (by omega) (by decide) rfl ?_
    refine ev_ic1 (ev_dt dt_Contest_note_0 22 rfl) ?_
    refine ev_iload_2 (ev_dt dt_Contest_note_0 23 rfl) ?_
    refine ev_ishl (ev_dt dt_Contest_note_0 24 rfl) rfl ?_
    refine ev_ior (ev_dt dt_Contest_note_0 25 rfl) rfl ?_
    refine ev_iast (ev_dt dt_Contest_note_0 26 rfl) hC.2.1 (by omega) (by decide) ?_
    obtain ⟨hC1, hF1⟩ := hC.setB (upd be i (be i ||| nI 1 <<< (nI j &&& 31)))
    exact ev_return (ev_dt dt_Contest_note_0 27 rfl) rfl (kk _ _ hC1 hF1 rfl)
  · refine ev_iload_3 (ev_dt dt_Contest_note_0 0 rfl) ?_
    refine ev_ic1 (ev_dt dt_Contest_note_0 1 rfl) ?_
    refine ev_icmp_neT (tgt := 20) (ev_dt dt_Contest_note_0 2 rfl) (by decide) (by decide +kernel) ?_
    refine ev_iload_3 (ev_dt dt_Contest_note_0 14 rfl) ?_
    refine ev_ic2 (ev_dt dt_Contest_note_0 15 rfl) ?_
    refine ev_icmp_neT (tgt := 37) (ev_dt dt_Contest_note_0 16 rfl) (by decide) (by decide +kernel) ?_
    exact ev_return (ev_dt dt_Contest_note_0 27 rfl) rfl (kk h be hC fI.rf rfl)
end C4
