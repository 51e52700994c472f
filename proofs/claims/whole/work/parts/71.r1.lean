/-! The reference's methods: rows, conditions, layers, answers, forms (written by gen_r1.py over walk.py). -/
section R1
variable {E : ev_E} {d : Nat} {h : ev_h} {sz k n : Nat} {Q : ev_Q}
variable {m : Nat} {F : Nat → Nat} {A : Nat → Nat → Int32}
theorem r_thrown (hM : Rf E m F A h) (kk : Q (.returned (some (.int (nI (F 0))))) h sz k n) : Ev E m_Md_thrown d 0 [some (.ref m)] [] h sz k n Q := by
  refine ev_aload_0 (ev_dt dt_Md_thrown_0 0 rfl) ?_
  refine ev_get (v := .int (nI (F 0))) (ev_dt dt_Md_thrown_0 1 rfl) g_Md_95_10 hM.1 rfl ?_
  exact ev_ireturn (ev_dt dt_Md_thrown_0 2 rfl) rfl rfl kk
theorem r_isColumn {x : Int32} (kt : (∃ j, j < 4 ∧ x = nI j) → Q (.returned (some (.int (nI 1)))) h sz k n) (kf : (∀ j, j < 4 → x ≠ nI j) → Q (.returned (some (.int (nI 0)))) h sz k n) : Ev E m_Md_isColumn d 0 [some (.int x)] [] h sz k n Q := by
  refine ev_iload_0 (ev_dt dt_Md_isColumn_0 0 rfl) ?_
  refine ev_if_lt (tgt := 13) (ev_dt dt_Md_isColumn_0 1 rfl) (by decide) (fun g1 => ?_) (fun g1 => ?_)
  · refine ev_ic0 (ev_dt dt_Md_isColumn_0 7 rfl) ?_
    exact ev_ireturn (ev_dt dt_Md_isColumn_0 8 rfl) rfl bz0 (kf (nI_nb (by decide) (Or.inl g1)))
  · refine ev_iload_0 (ev_dt dt_Md_isColumn_0 2 rfl) ?_
    refine ev_ic4 (ev_dt dt_Md_isColumn_0 3 rfl) ?_
    refine ev_icmp_ge (tgt := 13) (ev_dt dt_Md_isColumn_0 4 rfl) (by decide) (fun g2 => ?_) (fun g2 => ?_)
    · refine ev_ic0 (ev_dt dt_Md_isColumn_0 7 rfl) ?_
      exact ev_ireturn (ev_dt dt_Md_isColumn_0 8 rfl) rfl bz0 (kf (nI_nb (by decide) (Or.inr g2)))
    · refine ev_ic1 (ev_dt dt_Md_isColumn_0 5 rfl) ?_
      refine ev_goto (tgt := 14) (ev_dt dt_Md_isColumn_0 6 rfl) (by decide) ?_
      exact ev_ireturn (ev_dt dt_Md_isColumn_0 8 rfl) rfl bz1 (kt (nI_bd (by decide) g1 g2))
theorem r_isPlain {x : Int32} (kt : (∃ j, j < 10 ∧ x = nI j) → Q (.returned (some (.int (nI 1)))) h sz k n) (kf : (∀ j, j < 10 → x ≠ nI j) → Q (.returned (some (.int (nI 0)))) h sz k n) : Ev E m_Md_isPlain d 0 [some (.int x)] [] h sz k n Q := by
  refine ev_iload_0 (ev_dt dt_Md_isPlain_0 0 rfl) ?_
  refine ev_if_lt (tgt := 14) (ev_dt dt_Md_isPlain_0 1 rfl) (by decide) (fun g1 => ?_) (fun g1 => ?_)
  · refine ev_ic0 (ev_dt dt_Md_isPlain_0 7 rfl) ?_
    exact ev_ireturn (ev_dt dt_Md_isPlain_0 8 rfl) rfl bz0 (kf (nI_nb (by decide) (Or.inl g1)))
  · refine ev_iload_0 (ev_dt dt_Md_isPlain_0 2 rfl) ?_
    refine ev_bipush (ev_dt dt_Md_isPlain_0 3 rfl) bi_10 ?_
    refine ev_icmp_ge (tgt := 14) (ev_dt dt_Md_isPlain_0 4 rfl) (by decide) (fun g2 => ?_) (fun g2 => ?_)
    · refine ev_ic0 (ev_dt dt_Md_isPlain_0 7 rfl) ?_
      exact ev_ireturn (ev_dt dt_Md_isPlain_0 8 rfl) rfl bz0 (kf (nI_nb (by decide) (Or.inr g2)))
    · refine ev_ic1 (ev_dt dt_Md_isPlain_0 5 rfl) ?_
      refine ev_goto (tgt := 15) (ev_dt dt_Md_isPlain_0 6 rfl) (by decide) ?_
      exact ev_ireturn (ev_dt dt_Md_isPlain_0 8 rfl) rfl bz1 (kt (nI_bd (by decide) g1 g2))
theorem r_isNode {x : Int32} (hM : Rf E m F A h) (hF : F 2 ≤ 24) (kt : (∃ j, j < F 2 ∧ x = nI j) → Q (.returned (some (.int (nI 1)))) h sz k n) (kf : (∀ j, j < F 2 → x ≠ nI j) → Q (.returned (some (.int (nI 0)))) h sz k n) : Ev E m_Md_isNode d 0 [some (.ref m), some (.int x)] [] h sz k n Q := by
  refine ev_iload_1 (ev_dt dt_Md_isNode_0 0 rfl) ?_
  refine ev_if_lt (tgt := 16) (ev_dt dt_Md_isNode_0 1 rfl) (by decide) (fun g1 => ?_) (fun g1 => ?_)
  · refine ev_ic0 (ev_dt dt_Md_isNode_0 8 rfl) ?_
    exact ev_ireturn (ev_dt dt_Md_isNode_0 9 rfl) rfl bz0 (kf (nI_nb (by omega) (Or.inl g1)))
  · refine ev_iload_1 (ev_dt dt_Md_isNode_0 2 rfl) ?_
    refine ev_aload_0 (ev_dt dt_Md_isNode_0 3 rfl) ?_
    refine ev_get (v := .int (nI (F 2))) (ev_dt dt_Md_isNode_0 4 rfl) g_Md_102_10 hM.1 rfl ?_
    refine ev_icmp_ge (tgt := 16) (ev_dt dt_Md_isNode_0 5 rfl) (by decide) (fun g2 => ?_) (fun g2 => ?_)
    · refine ev_ic0 (ev_dt dt_Md_isNode_0 8 rfl) ?_
      exact ev_ireturn (ev_dt dt_Md_isNode_0 9 rfl) rfl bz0 (kf (nI_nb (by omega) (Or.inr g2)))
    · refine ev_ic1 (ev_dt dt_Md_isNode_0 6 rfl) ?_
      refine ev_goto (tgt := 17) (ev_dt dt_Md_isNode_0 7 rfl) (by decide) ?_
      exact ev_ireturn (ev_dt dt_Md_isNode_0 9 rfl) rfl bz1 (kt (nI_bd (by omega) g1 g2))
theorem r_isRow {x : Int32} {T : Nat → Bool} (hT : ∀ r, r < 120 → A 0 r = b2 (T r)) (hM : Rf E m F A h) (hF : F 1 ≤ 120) (kt : ∀ r, r < F 1 → T r = true → x = nI r → Q (.returned (some (.int (nI 1)))) h sz k n) (kf : (∀ r, r < F 1 → T r = true → x ≠ nI r) → Q (.returned (some (.int (nI 0)))) h sz k n) : Ev E m_Md_isRow d 0 [some (.ref m), some (.int x)] [] h sz k n Q := by
  refine ev_iload_1 (ev_dt dt_Md_isRow_0 0 rfl) ?_
  refine ev_if_lt (tgt := 39) (ev_dt dt_Md_isRow_0 1 rfl) (by decide) (fun g1 => ?_) (fun g1 => ?_)
  · refine ev_ic0 (ev_dt dt_Md_isRow_0 20 rfl) ?_
    exact ev_ireturn (ev_dt dt_Md_isRow_0 21 rfl) rfl bz0 (kf (fun j hj _ => nI_nb (by omega) (Or.inl g1) j hj))
  · refine ev_iload_1 (ev_dt dt_Md_isRow_0 2 rfl) ?_
    refine ev_aload_0 (ev_dt dt_Md_isRow_0 3 rfl) ?_
    refine ev_get (v := .int (nI (F 1))) (ev_dt dt_Md_isRow_0 4 rfl) g_Md_99_10 hM.1 rfl ?_
    refine ev_icmp_ge (tgt := 39) (ev_dt dt_Md_isRow_0 5 rfl) (by decide) (fun g2 => ?_) (fun g2 => ?_)
    · refine ev_ic0 (ev_dt dt_Md_isRow_0 20 rfl) ?_
      exact ev_ireturn (ev_dt dt_Md_isRow_0 21 rfl) rfl bz0 (kf (fun j hj _ => nI_nb (by omega) (Or.inr g2) j hj))
    · obtain ⟨r, hr, rfl⟩ := nI_bd (by omega) g1 g2
      refine ev_aload_0 (ev_dt dt_Md_isRow_0 6 rfl) ?_
      refine ev_get (v := .ref (m + 1)) (ev_dt dt_Md_isRow_0 7 rfl) g_Md_7_10 hM.1 rfl ?_
      refine ev_iload_1 (ev_dt dt_Md_isRow_0 8 rfl) ?_
      refine ev_if_ltF (tgt := 26) (ev_dt dt_Md_isRow_0 9 rfl) (by decide) g1 ?_
      refine ev_iload_1 (ev_dt dt_Md_isRow_0 10 rfl) ?_
      refine ev_bipush (ev_dt dt_Md_isRow_0 11 rfl) bi_119 ?_
      refine ev_icmp_leT (tgt := 30) (ev_dt dt_Md_isRow_0 12 rfl) (by decide) (nI_le (by omega) (by omega)) ?_
      refine ev_iload_1 (ev_dt dt_Md_isRow_0 15 rfl) ?_
      refine ev_zald (f := A 0) (ev_dt dt_Md_isRow_0 16 rfl) hM.a0 (by omega) (by decide) rfl ?_
      rw [hT r (by omega)]
      refine ev_if_eq (tgt := 39) (ev_dt dt_Md_isRow_0 17 rfl) (by decide) (fun g3 => ?_) (fun g3 => ?_)
      · refine ev_ic0 (ev_dt dt_Md_isRow_0 20 rfl) ?_
        exact ev_ireturn (ev_dt dt_Md_isRow_0 21 rfl) rfl bz0 (kf (fun j hj hTj e => by rw [nI_eq (by omega) (by omega)] at e; subst e; rw [b2_0.mp g3] at hTj; cases hTj))
      · refine ev_ic1 (ev_dt dt_Md_isRow_0 18 rfl) ?_
        refine ev_goto (tgt := 40) (ev_dt dt_Md_isRow_0 19 rfl) (by decide) ?_
        exact ev_ireturn (ev_dt dt_Md_isRow_0 21 rfl) rfl bz1 (kt r hr (by cases h : T r with | true => rfl | false => exact absurd (by rw [h]; exact nI_0) g3) rfl)
theorem r_present {T : Nat → Bool} (hT : ∀ r, r < 120 → A 0 r = b2 (T r)) (hM : Rf E m F A h) (hF : F 1 ≤ 120) (kk : Q (.returned (some (.int (nI (cnt T (F 1)))))) h sz k n) : Ev E m_Md_present d 0 [some (.ref m), none, none] [] h sz k n Q := by
  have loop : ∀ m' j, j + m' = F 1 → Ev E m_Md_present d 4 [some (.ref m), some (.int (nI (cnt T j))), some (.int (nI j))] [] h sz k n Q := by
    intro m'
    induction m' with
    | zero =>
      intro j hj
      refine ev_iload_2 (ev_dt dt_Md_present_0 4 rfl) ?_
      refine ev_aload_0 (ev_dt dt_Md_present_0 5 rfl) ?_
      refine ev_get (v := .int (nI (F 1))) (ev_dt dt_Md_present_0 6 rfl) g_Md_99_10 hM.1 rfl ?_
      refine ev_icmp_geT (tgt := 35) (ev_dt dt_Md_present_0 7 rfl) (by decide) (nI_le (by omega) (by omega)) ?_
      refine ev_iload_1 (ev_dt dt_Md_present_0 21 rfl) ?_
      rw [show j = F 1 by omega]
      exact ev_ireturn (ev_dt dt_Md_present_0 22 rfl) rfl rfl kk
    | succ m' ih =>
      intro j hj
      refine ev_iload_2 (ev_dt dt_Md_present_0 4 rfl) ?_
      refine ev_aload_0 (ev_dt dt_Md_present_0 5 rfl) ?_
      refine ev_get (v := .int (nI (F 1))) (ev_dt dt_Md_present_0 6 rfl) g_Md_99_10 hM.1 rfl ?_
      refine ev_icmp_geF (tgt := 35) (ev_dt dt_Md_present_0 7 rfl) (by decide) (nI_ge (by omega) (by omega)) ?_
      refine ev_iload_1 (ev_dt dt_Md_present_0 8 rfl) ?_
      refine ev_aload_0 (ev_dt dt_Md_present_0 9 rfl) ?_
      refine ev_get (v := .ref (m + 1)) (ev_dt dt_Md_present_0 10 rfl) g_Md_7_10 hM.1 rfl ?_
      refine ev_iload_2 (ev_dt dt_Md_present_0 11 rfl) ?_
      refine ev_zald (f := A 0) (ev_dt dt_Md_present_0 12 rfl) hM.a0 (by omega) (by decide) rfl ?_
      rw [hT j (by omega)]
      refine ev_if_eq (tgt := 26) (ev_dt dt_Md_present_0 13 rfl) (by decide) (fun g3 => ?_) (fun g3 => ?_)
      · refine ev_ic0 (ev_dt dt_Md_present_0 16 rfl) ?_
        refine ev_addn (ev_dt dt_Md_present_0 17 rfl) ?_
        refine ev_istore_1 (ev_dt dt_Md_present_0 18 rfl) (by decide) rfl ?_
        refine ev_inc1_2 (ev_dt dt_Md_present_0 19 rfl) (by decide) rfl ?_
        refine ev_goto (tgt := 4) (ev_dt dt_Md_present_0 20 rfl) (by decide) ?_
        have e : cnt T (j + 1) = cnt T j + 0 := by rw [cnt, b2_0.mp g3]; simp
        rw [← e]
        exact ih (j + 1) (by omega)
      · refine ev_ic1 (ev_dt dt_Md_present_0 14 rfl) ?_
        refine ev_goto (tgt := 27) (ev_dt dt_Md_present_0 15 rfl) (by decide) ?_
        refine ev_addn (ev_dt dt_Md_present_0 17 rfl) ?_
        refine ev_istore_1 (ev_dt dt_Md_present_0 18 rfl) (by decide) rfl ?_
        refine ev_inc1_2 (ev_dt dt_Md_present_0 19 rfl) (by decide) rfl ?_
        refine ev_goto (tgt := 4) (ev_dt dt_Md_present_0 20 rfl) (by decide) ?_
        have e : cnt T (j + 1) = cnt T j + 1 := by
          have hj : T j = true := by cases h : T j with | true => rfl | false => exact absurd (by rw [h]; exact nI_0) g3
          rw [cnt, hj]; simp
        rw [← e]
        exact ih (j + 1) (by omega)
  refine ev_ic0 (ev_dt dt_Md_present_0 0 rfl) ?_
  refine ev_istore_1 (ev_dt dt_Md_present_0 1 rfl) (by decide) rfl ?_
  refine ev_ic0 (ev_dt dt_Md_present_0 2 rfl) ?_
  refine ev_istore_2 (ev_dt dt_Md_present_0 3 rfl) (by decide) rfl ?_
  exact loop (F 1) 0 (by omega)
theorem r_row {x0 x1 x2 x3 : Int32} {T : Nat → Bool} (hT : ∀ r, r < 120 → A 0 r = b2 (T r)) (hM : Rf E m F A h) (hF : F 1 ≤ 120) (kx : F 1 = 120 ∨ cnt T (F 1) = 24 → ∀ h', Rf E m (uF F 0 1) A h' → fR m h h' → Q (.returned (some (.int (nI 0)))) h' sz k n) (kk : F 1 ≠ 120 → cnt T (F 1) ≠ 24 → ∀ h', Rf E m (uF (uF F 0 0) 1 ((F 1) + 1)) (uA (uA (uA (uA (uA A 1 (4 * (F 1)) x0) 1 ((4 * (F 1)) + 1) x1) 1 ((4 * (F 1)) + 2) x2) 1 ((4 * (F 1)) + 3) x3) 0 (F 1) (nI 1)) h' → fR m h h' → Q (.returned (some (.int (nI (F 1))))) h' sz k n) : Ev E m_Md_row (d + 1) 0 [some (.ref m), some (.int x0), some (.int x1), some (.int x2), some (.int x3)] [] h sz k n Q := by
  refine ev_aload_0 (ev_dt dt_Md_row_0 0 rfl) ?_
  refine ev_aload_0 (ev_dt dt_Md_row_0 1 rfl) ?_
  refine ev_get (v := .int (nI (F 1))) (ev_dt dt_Md_row_0 2 rfl) g_Md_99_10 hM.1 rfl ?_
  refine ev_bipush (ev_dt dt_Md_row_0 3 rfl) bi_120 ?_
  refine ev_icmp_eq (tgt := 19) (ev_dt dt_Md_row_0 4 rfl) (by decide) (fun g1 => ?_) (fun g1 => ?_)
  · refine ev_ic1 (ev_dt dt_Md_row_0 9 rfl) ?_
    refine ev_goto (tgt := 24) (ev_dt dt_Md_row_0 10 rfl) (by decide) ?_
    refine rf_pt0 (ev_dt dt_Md_row_0 12 rfl) rfl hM (fun h1 hM1 hf1 => ?_)
    refine ev_aload_0 (ev_dt dt_Md_row_0 13 rfl) ?_
    refine ev_get (v := .int (nI 1)) (ev_dt dt_Md_row_0 14 rfl) g_Md_95_10 hM1.1 rfl ?_
    refine ev_if_leF (tgt := 36) (ev_dt dt_Md_row_0 15 rfl) (by decide) (by decide +kernel) ?_
    refine ev_ic0 (ev_dt dt_Md_row_0 16 rfl) ?_
    exact ev_ireturn (ev_dt dt_Md_row_0 17 rfl) rfl rfl (kx (Or.inl ((nI_eq (by omega) (by omega)).mp g1)) h1 hM1 hf1)
  · refine ev_aload_0 (ev_dt dt_Md_row_0 5 rfl) ?_
    refine ev_callV (ev_dt dt_Md_row_0 6 rfl) v_Md_105_10 hM.1 [] rfl np_Md_present rfl (ev_lk_of (j := 2) rfl rfl) (r_present hT hM hF (ev_r1 ?_))
    refine ev_bipush (ev_dt dt_Md_row_0 7 rfl) bi_24 ?_
    have hcl := cnt_le T (F 1)
    refine ev_icmp_ne (tgt := 23) (ev_dt dt_Md_row_0 8 rfl) (by decide) (fun g2 => ?_) (fun g2 => ?_)
    · refine ev_ic0 (ev_dt dt_Md_row_0 11 rfl) ?_
      refine rf_pt0 (ev_dt dt_Md_row_0 12 rfl) rfl hM (fun h2 hM2 hf2 => ?_)
      refine ev_aload_0 (ev_dt dt_Md_row_0 13 rfl) ?_
      refine ev_get (v := .int (nI 0)) (ev_dt dt_Md_row_0 14 rfl) g_Md_95_10 hM2.1 rfl ?_
      refine ev_if_leT (tgt := 36) (ev_dt dt_Md_row_0 15 rfl) (by decide) (by decide +kernel) ?_
      have g1' : F 1 ≠ 120 := fun e => g1 (by rw [e])
      refine ev_aload_0 (ev_dt dt_Md_row_0 18 rfl) ?_
      refine ev_get (v := .ref (m + 2)) (ev_dt dt_Md_row_0 19 rfl) g_Md_13_10 hM2.1 rfl ?_
      refine ev_ic4 (ev_dt dt_Md_row_0 20 rfl) ?_
      refine ev_aload_0 (ev_dt dt_Md_row_0 21 rfl) ?_
      refine ev_get (v := .int (nI (F 1))) (ev_dt dt_Md_row_0 22 rfl) g_Md_99_10 hM2.1 rfl ?_
      refine ev_imul (ev_dt dt_Md_row_0 23 rfl) (nI_mul _ _) ?_
      refine ev_iload_1 (ev_dt dt_Md_row_0 24 rfl) ?_
      refine rf_st1 (ev_dt dt_Md_row_0 25 rfl) hM2 (by omega) (fun h3 hM3 hf3 => ?_)
      replace hf3 := hf2.tr hf3
      refine ev_aload_0 (ev_dt dt_Md_row_0 26 rfl) ?_
      refine ev_get (v := .ref (m + 2)) (ev_dt dt_Md_row_0 27 rfl) g_Md_13_10 hM3.1 rfl ?_
      refine ev_ic4 (ev_dt dt_Md_row_0 28 rfl) ?_
      refine ev_aload_0 (ev_dt dt_Md_row_0 29 rfl) ?_
      refine ev_get (v := .int (nI (F 1))) (ev_dt dt_Md_row_0 30 rfl) g_Md_99_10 hM3.1 rfl ?_
      refine ev_imul (ev_dt dt_Md_row_0 31 rfl) (nI_mul _ _) ?_
      refine ev_ic1 (ev_dt dt_Md_row_0 32 rfl) ?_
      refine ev_addn (ev_dt dt_Md_row_0 33 rfl) ?_
      refine ev_iload_2 (ev_dt dt_Md_row_0 34 rfl) ?_
      refine rf_st1 (ev_dt dt_Md_row_0 35 rfl) hM3 (by omega) (fun h4 hM4 hf4 => ?_)
      replace hf4 := hf3.tr hf4
      refine ev_aload_0 (ev_dt dt_Md_row_0 36 rfl) ?_
      refine ev_get (v := .ref (m + 2)) (ev_dt dt_Md_row_0 37 rfl) g_Md_13_10 hM4.1 rfl ?_
      refine ev_ic4 (ev_dt dt_Md_row_0 38 rfl) ?_
      refine ev_aload_0 (ev_dt dt_Md_row_0 39 rfl) ?_
      refine ev_get (v := .int (nI (F 1))) (ev_dt dt_Md_row_0 40 rfl) g_Md_99_10 hM4.1 rfl ?_
      refine ev_imul (ev_dt dt_Md_row_0 41 rfl) (nI_mul _ _) ?_
      refine ev_ic2 (ev_dt dt_Md_row_0 42 rfl) ?_
      refine ev_addn (ev_dt dt_Md_row_0 43 rfl) ?_
      refine ev_iload_3 (ev_dt dt_Md_row_0 44 rfl) ?_
      refine rf_st1 (ev_dt dt_Md_row_0 45 rfl) hM4 (by omega) (fun h5 hM5 hf5 => ?_)
      replace hf5 := hf4.tr hf5
      refine ev_aload_0 (ev_dt dt_Md_row_0 46 rfl) ?_
      refine ev_get (v := .ref (m + 2)) (ev_dt dt_Md_row_0 47 rfl) g_Md_13_10 hM5.1 rfl ?_
      refine ev_ic4 (ev_dt dt_Md_row_0 48 rfl) ?_
      refine ev_aload_0 (ev_dt dt_Md_row_0 49 rfl) ?_
      refine ev_get (v := .int (nI (F 1))) (ev_dt dt_Md_row_0 50 rfl) g_Md_99_10 hM5.1 rfl ?_
      refine ev_imul (ev_dt dt_Md_row_0 51 rfl) (nI_mul _ _) ?_
      refine ev_ic3 (ev_dt dt_Md_row_0 52 rfl) ?_
      refine ev_addn (ev_dt dt_Md_row_0 53 rfl) ?_
      refine ev_iload_4 (ev_dt dt_Md_row_0 54 rfl) ?_
      refine rf_st1 (ev_dt dt_Md_row_0 55 rfl) hM5 (by omega) (fun h6 hM6 hf6 => ?_)
      replace hf6 := hf5.tr hf6
      refine ev_aload_0 (ev_dt dt_Md_row_0 56 rfl) ?_
      refine ev_get (v := .ref (m + 1)) (ev_dt dt_Md_row_0 57 rfl) g_Md_7_10 hM6.1 rfl ?_
      refine ev_aload_0 (ev_dt dt_Md_row_0 58 rfl) ?_
      refine ev_get (v := .int (nI (F 1))) (ev_dt dt_Md_row_0 59 rfl) g_Md_99_10 hM6.1 rfl ?_
      refine ev_ic1 (ev_dt dt_Md_row_1 0 rfl) ?_
      refine rf_st0 (ev_dt dt_Md_row_1 1 rfl) hM6 (by omega) bz1 (fun h7 hM7 hf7 => ?_)
      replace hf7 := hf6.tr hf7
      refine ev_aload_0 (ev_dt dt_Md_row_1 2 rfl) ?_
      refine ev_dup (ev_dt dt_Md_row_1 3 rfl) rfl ?_
      refine ev_get (v := .int (nI (F 1))) (ev_dt dt_Md_row_1 4 rfl) g_Md_99_10 hM7.1 rfl ?_
      refine ev_ic1 (ev_dt dt_Md_row_1 5 rfl) ?_
      refine ev_addn (ev_dt dt_Md_row_1 6 rfl) ?_
      refine rf_pt1 (ev_dt dt_Md_row_1 7 rfl) rfl hM7 (fun h8 hM8 hf8 => ?_)
      replace hf8 := hf7.tr hf8
      refine ev_aload_0 (ev_dt dt_Md_row_1 8 rfl) ?_
      refine ev_get (v := .int (nI ((F 1) + 1))) (ev_dt dt_Md_row_1 9 rfl) g_Md_99_10 hM8.1 rfl ?_
      refine ev_ic1 (ev_dt dt_Md_row_1 10 rfl) ?_
      refine ev_isub (ev_dt dt_Md_row_1 11 rfl) (nI_sub1 _) ?_
      exact ev_ireturn (ev_dt dt_Md_row_1 12 rfl) rfl rfl (kk g1' (fun e => g2 (by rw [e])) h8 hM8 hf8)
    · refine ev_ic1 (ev_dt dt_Md_row_0 9 rfl) ?_
      refine ev_goto (tgt := 24) (ev_dt dt_Md_row_0 10 rfl) (by decide) ?_
      refine rf_pt0 (ev_dt dt_Md_row_0 12 rfl) rfl hM (fun h9 hM9 hf9 => ?_)
      refine ev_aload_0 (ev_dt dt_Md_row_0 13 rfl) ?_
      refine ev_get (v := .int (nI 1)) (ev_dt dt_Md_row_0 14 rfl) g_Md_95_10 hM9.1 rfl ?_
      refine ev_if_leF (tgt := 36) (ev_dt dt_Md_row_0 15 rfl) (by decide) (by decide +kernel) ?_
      refine ev_ic0 (ev_dt dt_Md_row_0 16 rfl) ?_
      exact ev_ireturn (ev_dt dt_Md_row_0 17 rfl) rfl rfl (kx (Or.inr ((nI_eq (by omega) (by omega)).mp g2)) h9 hM9 hf9)
theorem r_change {x y v : Int32} {T : Nat → Bool} (hT : ∀ r, r < 120 → A 0 r = b2 (T r)) (hM : Rf E m F A h) (hF1 : F 1 ≤ 120) (kf : (∀ r, r < F 1 → T r = true → x ≠ nI r) ∨ (∀ l, l < 4 → y ≠ nI l) → ∀ h', Rf E m (uF F 0 0) A h' → fR m h h' → Q (.returned (some (.int (nI 0)))) h' sz k n) (kt : ∀ r l, r < F 1 → T r = true → x = nI r → l < 4 → y = nI l → ∀ h', Rf E m (uF F 0 0) (uA A 1 ((4 * r) + l) v) h' → fR m h h' → Q (.returned (some (.int (nI 1)))) h' sz k n) : Ev E m_Md_change (d + 1) 0 [some (.ref m), some (.int x), some (.int y), some (.int v)] [] h sz k n Q := by
  refine ev_aload_0 (ev_dt dt_Md_change_0 0 rfl) ?_
  refine ev_ic0 (ev_dt dt_Md_change_0 1 rfl) ?_
  refine rf_pt0 (ev_dt dt_Md_change_0 2 rfl) rfl hM (fun h1 hM1 hf1 => ?_)
  refine ev_aload_0 (ev_dt dt_Md_change_0 3 rfl) ?_
  refine ev_iload_1 (ev_dt dt_Md_change_0 4 rfl) ?_
  refine ev_callV (ev_dt dt_Md_change_0 5 rfl) v_Md_109_10 hM1.1 [.int x] rfl np_Md_isRow rfl (ev_lk_of (j := 0) rfl rfl) (r_isRow hT hM1 hF1 (fun r (h_r : r < F 1) ht_r hx_r => ev_r1 ?_) (fun (hno : ∀ r, r < F 1 → T r = true → x ≠ nI r) => ev_r1 ?_))
  · subst hx_r
    refine ev_if_eqF (tgt := 20) (ev_dt dt_Md_change_0 6 rfl) (by decide) z10 ?_
    refine ev_iload_2 (ev_dt dt_Md_change_0 7 rfl) ?_
    refine ev_callS (ev_dt dt_Md_change_0 8 rfl) s_Md_113 [.int y] rfl np_Md_isColumn rfl (ev_lk_of (j := 0) rfl rfl) (r_isColumn (fun hcol => ev_r1 ?_) (fun hcol => ev_r1 ?_))
    · obtain ⟨l, hl, rfl⟩ := hcol
      refine ev_if_neT (tgt := 22) (ev_dt dt_Md_change_0 9 rfl) (by decide) z10 ?_
      refine ev_aload_0 (ev_dt dt_Md_change_0 12 rfl) ?_
      refine ev_get (v := .ref (m + 2)) (ev_dt dt_Md_change_0 13 rfl) g_Md_13_10 hM1.1 rfl ?_
      refine ev_ic4 (ev_dt dt_Md_change_0 14 rfl) ?_
      refine ev_iload_1 (ev_dt dt_Md_change_0 15 rfl) ?_
      refine ev_imul (ev_dt dt_Md_change_0 16 rfl) (nI_mul _ _) ?_
      refine ev_iload_2 (ev_dt dt_Md_change_0 17 rfl) ?_
      refine ev_addn (ev_dt dt_Md_change_0 18 rfl) ?_
      refine ev_iload_3 (ev_dt dt_Md_change_0 19 rfl) ?_
      refine rf_st1 (ev_dt dt_Md_change_0 20 rfl) hM1 (by omega) (fun h2 hM2 hf2 => ?_)
      replace hf2 := hf1.tr hf2
      refine ev_ic1 (ev_dt dt_Md_change_0 21 rfl) ?_
      exact ev_ireturn (ev_dt dt_Md_change_0 22 rfl) rfl bz1 (kt r l h_r ht_r rfl hl rfl h2 hM2 hf2)
    · refine ev_if_neF (tgt := 22) (ev_dt dt_Md_change_0 9 rfl) (by decide) z00 ?_
      refine ev_ic0 (ev_dt dt_Md_change_0 10 rfl) ?_
      exact ev_ireturn (ev_dt dt_Md_change_0 11 rfl) rfl bz0 (kf (Or.inr hcol) h1 hM1 hf1)
  · refine ev_if_eqT (tgt := 20) (ev_dt dt_Md_change_0 6 rfl) (by decide) z00 ?_
    refine ev_ic0 (ev_dt dt_Md_change_0 10 rfl) ?_
    exact ev_ireturn (ev_dt dt_Md_change_0 11 rfl) rfl bz0 (kf (Or.inl hno) h1 hM1 hf1)
theorem r_remove {x : Int32} {T : Nat → Bool} (hT : ∀ r, r < 120 → A 0 r = b2 (T r)) (hM : Rf E m F A h) (hF1 : F 1 ≤ 120) (kf : (∀ r, r < F 1 → T r = true → x ≠ nI r) → ∀ h', Rf E m (uF F 0 0) A h' → fR m h h' → Q (.returned (some (.int (nI 0)))) h' sz k n) (kt : ∀ r, r < F 1 → T r = true → x = nI r → ∀ h', Rf E m (uF F 0 0) (uA A 0 r (nI 0)) h' → fR m h h' → Q (.returned (some (.int (nI 1)))) h' sz k n) : Ev E m_Md_remove (d + 1) 0 [some (.ref m), some (.int x)] [] h sz k n Q := by
  refine ev_aload_0 (ev_dt dt_Md_remove_0 0 rfl) ?_
  refine ev_ic0 (ev_dt dt_Md_remove_0 1 rfl) ?_
  refine rf_pt0 (ev_dt dt_Md_remove_0 2 rfl) rfl hM (fun h1 hM1 hf1 => ?_)
  refine ev_aload_0 (ev_dt dt_Md_remove_0 3 rfl) ?_
  refine ev_iload_1 (ev_dt dt_Md_remove_0 4 rfl) ?_
  refine ev_callV (ev_dt dt_Md_remove_0 5 rfl) v_Md_109_10 hM1.1 [.int x] rfl np_Md_isRow rfl (ev_lk_of (j := 0) rfl rfl) (r_isRow hT hM1 hF1 (fun r (h_r : r < F 1) ht_r hx_r => ev_r1 ?_) (fun (hno : ∀ r, r < F 1 → T r = true → x ≠ nI r) => ev_r1 ?_))
  · subst hx_r
    refine ev_if_neT (tgt := 15) (ev_dt dt_Md_remove_0 6 rfl) (by decide) z10 ?_
    refine ev_aload_0 (ev_dt dt_Md_remove_0 9 rfl) ?_
    refine ev_get (v := .ref (m + 1)) (ev_dt dt_Md_remove_0 10 rfl) g_Md_7_10 hM1.1 rfl ?_
    refine ev_iload_1 (ev_dt dt_Md_remove_0 11 rfl) ?_
    refine ev_ic0 (ev_dt dt_Md_remove_0 12 rfl) ?_
    refine rf_st0 (ev_dt dt_Md_remove_0 13 rfl) hM1 (by omega) bz0 (fun h2 hM2 hf2 => ?_)
    replace hf2 := hf1.tr hf2
    refine ev_ic1 (ev_dt dt_Md_remove_0 14 rfl) ?_
    exact ev_ireturn (ev_dt dt_Md_remove_0 15 rfl) rfl bz1 (kt r h_r ht_r rfl h2 hM2 hf2)
  · refine ev_if_neF (tgt := 15) (ev_dt dt_Md_remove_0 6 rfl) (by decide) z00 ?_
    refine ev_ic0 (ev_dt dt_Md_remove_0 7 rfl) ?_
    exact ev_ireturn (ev_dt dt_Md_remove_0 8 rfl) rfl bz0 (kf hno h1 hM1 hf1)
theorem r_value {x y : Int32} {T : Nat → Bool} (hT : ∀ r, r < 120 → A 0 r = b2 (T r)) (hM : Rf E m F A h) (hF1 : F 1 ≤ 120) (kx : (∀ r, r < F 1 → T r = true → x ≠ nI r) ∨ (∀ l, l < 4 → y ≠ nI l) → ∀ h', Rf E m (uF F 0 1) A h' → fR m h h' → Q (.returned (some (.int (nI 0)))) h' sz k n) (kt : ∀ r l, r < F 1 → T r = true → x = nI r → l < 4 → y = nI l → ∀ h', Rf E m (uF F 0 0) A h' → fR m h h' → Q (.returned (some (.int (A 1 (4 * r + l))))) h' sz k n) : Ev E m_Md_value (d + 1) 0 [some (.ref m), some (.int x), some (.int y)] [] h sz k n Q := by
  refine ev_aload_0 (ev_dt dt_Md_value_0 0 rfl) ?_
  refine ev_aload_0 (ev_dt dt_Md_value_0 1 rfl) ?_
  refine ev_iload_1 (ev_dt dt_Md_value_0 2 rfl) ?_
  refine ev_callV (ev_dt dt_Md_value_0 3 rfl) v_Md_109_10 hM.1 [.int x] rfl np_Md_isRow rfl (ev_lk_of (j := 0) rfl rfl) (r_isRow hT hM hF1 (fun r (h_r : r < F 1) ht_r hx_r => ev_r1 ?_) (fun (hno : ∀ r, r < F 1 → T r = true → x ≠ nI r) => ev_r1 ?_))
  · subst hx_r
    refine ev_if_eqF (tgt := 20) (ev_dt dt_Md_value_0 4 rfl) (by decide) z10 ?_
    refine ev_iload_2 (ev_dt dt_Md_value_0 5 rfl) ?_
    refine ev_callS (ev_dt dt_Md_value_0 6 rfl) s_Md_113 [.int y] rfl np_Md_isColumn rfl (ev_lk_of (j := 0) rfl rfl) (r_isColumn (fun hcol => ev_r1 ?_) (fun hcol => ev_r1 ?_))
    · obtain ⟨l, hl, rfl⟩ := hcol
      refine ev_if_eqF (tgt := 20) (ev_dt dt_Md_value_0 7 rfl) (by decide) z10 ?_
      refine ev_ic0 (ev_dt dt_Md_value_0 8 rfl) ?_
      refine ev_goto (tgt := 21) (ev_dt dt_Md_value_0 9 rfl) (by decide) ?_
      refine rf_pt0 (ev_dt dt_Md_value_0 11 rfl) rfl hM (fun h1 hM1 hf1 => ?_)
      refine ev_aload_0 (ev_dt dt_Md_value_0 12 rfl) ?_
      refine ev_get (v := .int (nI 0)) (ev_dt dt_Md_value_0 13 rfl) g_Md_95_10 hM1.1 rfl ?_
      refine ev_if_leT (tgt := 35) (ev_dt dt_Md_value_0 14 rfl) (by decide) (by decide +kernel) ?_
      refine ev_aload_0 (ev_dt dt_Md_value_0 17 rfl) ?_
      refine ev_get (v := .ref (m + 2)) (ev_dt dt_Md_value_0 18 rfl) g_Md_13_10 hM1.1 rfl ?_
      refine ev_ic4 (ev_dt dt_Md_value_0 19 rfl) ?_
      refine ev_iload_1 (ev_dt dt_Md_value_0 20 rfl) ?_
      refine ev_imul (ev_dt dt_Md_value_0 21 rfl) (nI_mul _ _) ?_
      refine ev_iload_2 (ev_dt dt_Md_value_0 22 rfl) ?_
      refine ev_addn (ev_dt dt_Md_value_0 23 rfl) ?_
      refine ev_iald (f := A 1) (ev_dt dt_Md_value_0 24 rfl) hM1.a1 (by omega) (by decide) rfl ?_
      exact ev_ireturn (ev_dt dt_Md_value_0 25 rfl) rfl rfl (kt r l h_r ht_r rfl hl rfl h1 hM1 hf1)
    · refine ev_if_eqT (tgt := 20) (ev_dt dt_Md_value_0 7 rfl) (by decide) z00 ?_
      refine ev_ic1 (ev_dt dt_Md_value_0 10 rfl) ?_
      refine rf_pt0 (ev_dt dt_Md_value_0 11 rfl) rfl hM (fun h2 hM2 hf2 => ?_)
      refine ev_aload_0 (ev_dt dt_Md_value_0 12 rfl) ?_
      refine ev_get (v := .int (nI 1)) (ev_dt dt_Md_value_0 13 rfl) g_Md_95_10 hM2.1 rfl ?_
      refine ev_if_leF (tgt := 35) (ev_dt dt_Md_value_0 14 rfl) (by decide) (by decide +kernel) ?_
      refine ev_ic0 (ev_dt dt_Md_value_0 15 rfl) ?_
      refine ev_goto (tgt := 45) (ev_dt dt_Md_value_0 16 rfl) (by decide) ?_
      exact ev_ireturn (ev_dt dt_Md_value_0 25 rfl) rfl rfl (kx (Or.inr hcol) h2 hM2 hf2)
  · refine ev_if_eqT (tgt := 20) (ev_dt dt_Md_value_0 4 rfl) (by decide) z00 ?_
    refine ev_ic1 (ev_dt dt_Md_value_0 10 rfl) ?_
    refine rf_pt0 (ev_dt dt_Md_value_0 11 rfl) rfl hM (fun h3 hM3 hf3 => ?_)
    refine ev_aload_0 (ev_dt dt_Md_value_0 12 rfl) ?_
    refine ev_get (v := .int (nI 1)) (ev_dt dt_Md_value_0 13 rfl) g_Md_95_10 hM3.1 rfl ?_
    refine ev_if_leF (tgt := 35) (ev_dt dt_Md_value_0 14 rfl) (by decide) (by decide +kernel) ?_
    refine ev_ic0 (ev_dt dt_Md_value_0 15 rfl) ?_
    refine ev_goto (tgt := 45) (ev_dt dt_Md_value_0 16 rfl) (by decide) ?_
    exact ev_ireturn (ev_dt dt_Md_value_0 25 rfl) rfl rfl (kx (Or.inl hno) h3 hM3 hf3)
end R1
