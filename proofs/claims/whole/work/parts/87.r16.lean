/-! place and emit, in the reference (written by gen_r16.py over walk.py). -/
section R16
variable {E : ev_E} {d : Nat} {h : ev_h} {sz k n : Nat} {Q : ev_Q}
variable {m : Nat} {F : Nat → Nat} {A : Nat → Nat → Int32}
theorem r_emit {x : Int32} (hM : Rf E m F A h) (hF5 : F 5 < 200) (kk : ∀ h', Rf E m (uF F 5 ((F 5) + 1)) (uA A 26 (F 5) x) h' → fR m h h' → Q (.returned none) h' sz k n) : Ev E m_Md_emit d 0 [some (.ref m), some (.int x)] [] h sz k n Q := by
  refine ev_aload_0 (ev_dt dt_Md_emit_0 0 rfl) ?_
  refine ev_get (v := .ref (m + 27)) (ev_dt dt_Md_emit_0 1 rfl) g_Md_89_10 hM.1 rfl ?_
  refine ev_aload_0 (ev_dt dt_Md_emit_0 2 rfl) ?_
  refine ev_get (v := .int (nI (F 5))) (ev_dt dt_Md_emit_0 3 rfl) g_Md_190_10 hM.1 rfl ?_
  refine ev_iload_1 (ev_dt dt_Md_emit_0 4 rfl) ?_
  refine rf_st26 (ev_dt dt_Md_emit_0 5 rfl) hM (by omega) (fun h1 hM1 hf1 => ?_)
  refine ev_aload_0 (ev_dt dt_Md_emit_0 6 rfl) ?_
  refine ev_dup (ev_dt dt_Md_emit_0 7 rfl) rfl ?_
  refine ev_get (v := .int (nI (F 5))) (ev_dt dt_Md_emit_0 8 rfl) g_Md_190_10 hM1.1 rfl ?_
  refine ev_ic1 (ev_dt dt_Md_emit_0 9 rfl) ?_
  refine ev_addn (ev_dt dt_Md_emit_0 10 rfl) ?_
  refine rf_pt5 (ev_dt dt_Md_emit_0 11 rfl) rfl hM1 (fun h2 hM2 hf2 => ?_)
  replace hf2 := hf1.tr hf2
  exact ev_return (ev_dt dt_Md_emit_0 12 rfl) rfl (kk h2 hM2 hf2)
theorem r_place {x c a b : Int32} (hM : Rf E m F A h) (hF4 : F 4 < 100) (hab : ¬ x < nI 6 → ∃ a' b', a = nI a' ∧ b = nI b' ∧ a' < F 4 ∧ b' < F 4) (kt : ∀ i, i < F 4 → (A 20 i = x ∧ A 21 i = c ∧ A 22 i = a ∧ A 23 i = b) → Q (.returned (some (.int (nI i)))) h sz k n) (kf : (∀ i, i < F 4 → ¬ (A 20 i = x ∧ A 21 i = c ∧ A 22 i = a ∧ A 23 i = b)) → ∀ v, (x < nI 6 → v = nI 1 <<< (c &&& 31)) → (¬ x < nI 6 → ∃ a' b', a = nI a' ∧ b = nI b' ∧ a' < F 4 ∧ b' < F 4 ∧ v = A 24 a' ||| A 24 b') → ∀ h', Rf E m (uF F 4 ((F 4) + 1)) (uA (uA (uA (uA (uA A 20 (F 4) x) 21 (F 4) c) 22 (F 4) a) 23 (F 4) b) 24 (F 4) v) h' → fR m h h' → Q (.returned (some (.int (nI (F 4))))) h' sz k n) : Ev E m_Md_place d 0 [some (.ref m), some (.int x), some (.int c), some (.int a), some (.int b), none] [] h sz k n Q := by
  have loop : ∀ m' j, j + m' = F 4 → (∀ i, i < j → ¬ (A 20 i = x ∧ A 21 i = c ∧ A 22 i = a ∧ A 23 i = b)) → Ev E m_Md_place d 3 [some (.ref m), some (.int x), some (.int c), some (.int a), some (.int b), some (.int (nI j))] [] h sz k n Q := by
    intro m'
    induction m' with
    | zero =>
      intro j hj hI
      refine ev_iload_5 (ev_dt dt_Md_place_0 2 rfl) ?_
      refine ev_aload_0 (ev_dt dt_Md_place_0 3 rfl) ?_
      refine ev_get (v := .int (nI (F 4))) (ev_dt dt_Md_place_0 4 rfl) g_Md_180_10 hM.1 rfl ?_
      refine ev_icmp_geT (tgt := 66) (ev_dt dt_Md_place_0 5 rfl) (by decide) (nI_le (by omega) (by omega)) ?_
      have hno : ∀ i, i < F 4 → ¬ (A 20 i = x ∧ A 21 i = c ∧ A 22 i = a ∧ A 23 i = b) := fun i hi => hI i (by omega)
      refine ev_aload_0 (ev_dt dt_Md_place_0 34 rfl) ?_
      refine ev_get (v := .ref (m + 21)) (ev_dt dt_Md_place_0 35 rfl) g_Md_71_10 hM.1 rfl ?_
      refine ev_aload_0 (ev_dt dt_Md_place_0 36 rfl) ?_
      refine ev_get (v := .int (nI (F 4))) (ev_dt dt_Md_place_0 37 rfl) g_Md_180_10 hM.1 rfl ?_
      refine ev_iload_1 (ev_dt dt_Md_place_0 38 rfl) ?_
      refine rf_st20 (ev_dt dt_Md_place_0 39 rfl) hM (by omega) (fun h1 hM1 hf1 => ?_)
      refine ev_aload_0 (ev_dt dt_Md_place_0 40 rfl) ?_
      refine ev_get (v := .ref (m + 22)) (ev_dt dt_Md_place_0 41 rfl) g_Md_74_10 hM1.1 rfl ?_
      refine ev_aload_0 (ev_dt dt_Md_place_0 42 rfl) ?_
      refine ev_get (v := .int (nI (F 4))) (ev_dt dt_Md_place_0 43 rfl) g_Md_180_10 hM1.1 rfl ?_
      refine ev_iload_2 (ev_dt dt_Md_place_0 44 rfl) ?_
      refine rf_st21 (ev_dt dt_Md_place_0 45 rfl) hM1 (by omega) (fun h2 hM2 hf2 => ?_)
      replace hf2 := hf1.tr hf2
      refine ev_aload_0 (ev_dt dt_Md_place_0 46 rfl) ?_
      refine ev_get (v := .ref (m + 23)) (ev_dt dt_Md_place_0 47 rfl) g_Md_77_10 hM2.1 rfl ?_
      refine ev_aload_0 (ev_dt dt_Md_place_0 48 rfl) ?_
      refine ev_get (v := .int (nI (F 4))) (ev_dt dt_Md_place_0 49 rfl) g_Md_180_10 hM2.1 rfl ?_
      refine ev_iload_3 (ev_dt dt_Md_place_0 50 rfl) ?_
      refine rf_st22 (ev_dt dt_Md_place_0 51 rfl) hM2 (by omega) (fun h3 hM3 hf3 => ?_)
      replace hf3 := hf2.tr hf3
      refine ev_aload_0 (ev_dt dt_Md_place_0 52 rfl) ?_
      refine ev_get (v := .ref (m + 24)) (ev_dt dt_Md_place_0 53 rfl) g_Md_80_10 hM3.1 rfl ?_
      refine ev_aload_0 (ev_dt dt_Md_place_0 54 rfl) ?_
      refine ev_get (v := .int (nI (F 4))) (ev_dt dt_Md_place_0 55 rfl) g_Md_180_10 hM3.1 rfl ?_
      refine ev_iload_4 (ev_dt dt_Md_place_0 56 rfl) ?_
      refine rf_st23 (ev_dt dt_Md_place_0 57 rfl) hM3 (by omega) (fun h4 hM4 hf4 => ?_)
      replace hf4 := hf3.tr hf4
      refine ev_aload_0 (ev_dt dt_Md_place_0 58 rfl) ?_
      refine ev_get (v := .ref (m + 25)) (ev_dt dt_Md_place_0 59 rfl) g_Md_83_10 hM4.1 rfl ?_
      refine ev_aload_0 (ev_dt dt_Md_place_1 0 rfl) ?_
      refine ev_get (v := .int (nI (F 4))) (ev_dt dt_Md_place_1 1 rfl) g_Md_180_10 hM4.1 rfl ?_
      refine ev_iload_1 (ev_dt dt_Md_place_1 2 rfl) ?_
      refine ev_bipush (ev_dt dt_Md_place_1 3 rfl) bi_6 ?_
      refine ev_icmp_ge (tgt := 127) (ev_dt dt_Md_place_1 4 rfl) (by decide) (fun g1 => ?_) (fun g1 => ?_)
      · obtain ⟨a', b', rfl, rfl, ha', hb'⟩ := hab (Int32.not_lt.mpr g1)
        refine ev_aload_0 (ev_dt dt_Md_place_1 9 rfl) ?_
        refine ev_get (v := .ref (m + 25)) (ev_dt dt_Md_place_1 10 rfl) g_Md_83_10 hM4.1 rfl ?_
        refine ev_iload_3 (ev_dt dt_Md_place_1 11 rfl) ?_
        refine ev_iald (f := A 24) (ev_dt dt_Md_place_1 12 rfl) hM4.a24 (by omega) (by decide) rfl ?_
        refine ev_aload_0 (ev_dt dt_Md_place_1 13 rfl) ?_
        refine ev_get (v := .ref (m + 25)) (ev_dt dt_Md_place_1 14 rfl) g_Md_83_10 hM4.1 rfl ?_
        refine ev_iload_4 (ev_dt dt_Md_place_1 15 rfl) ?_
        refine ev_iald (f := A 24) (ev_dt dt_Md_place_1 16 rfl) hM4.a24 (by omega) (by decide) rfl ?_
        refine ev_ior (ev_dt dt_Md_place_1 17 rfl) rfl ?_
        refine rf_st24 (ev_dt dt_Md_place_1 18 rfl) hM4 (by omega) (fun h5 hM5 hf5 => ?_)
        replace hf5 := hf4.tr hf5
        refine ev_aload_0 (ev_dt dt_Md_place_1 19 rfl) ?_
        refine ev_dup (ev_dt dt_Md_place_1 20 rfl) rfl ?_
        refine ev_get (v := .int (nI (F 4))) (ev_dt dt_Md_place_1 21 rfl) g_Md_180_10 hM5.1 rfl ?_
        refine ev_ic1 (ev_dt dt_Md_place_1 22 rfl) ?_
        refine ev_addn (ev_dt dt_Md_place_1 23 rfl) ?_
        refine rf_pt4 (ev_dt dt_Md_place_1 24 rfl) rfl hM5 (fun h6 hM6 hf6 => ?_)
        replace hf6 := hf5.tr hf6
        refine ev_aload_0 (ev_dt dt_Md_place_1 25 rfl) ?_
        refine ev_get (v := .int (nI ((F 4) + 1))) (ev_dt dt_Md_place_1 26 rfl) g_Md_180_10 hM6.1 rfl ?_
        refine ev_ic1 (ev_dt dt_Md_place_1 27 rfl) ?_
        refine ev_isub (ev_dt dt_Md_place_1 28 rfl) (nI_sub1 _) ?_
        exact ev_ireturn (ev_dt dt_Md_place_1 29 rfl) rfl rfl (kf hno (A 24 a' ||| A 24 b') (fun e => absurd e (Int32.not_lt.mpr g1)) (fun _ => ⟨a', b', rfl, rfl, ha', hb', rfl⟩) h6 hM6 hf6)
      · refine ev_ic1 (ev_dt dt_Md_place_1 5 rfl) ?_
        refine ev_iload_2 (ev_dt dt_Md_place_1 6 rfl) ?_
        refine ev_ishl (ev_dt dt_Md_place_1 7 rfl) rfl ?_
        refine ev_goto (tgt := 141) (ev_dt dt_Md_place_1 8 rfl) (by decide) ?_
        refine rf_st24 (ev_dt dt_Md_place_1 18 rfl) hM4 (by omega) (fun h7 hM7 hf7 => ?_)
        replace hf7 := hf4.tr hf7
        refine ev_aload_0 (ev_dt dt_Md_place_1 19 rfl) ?_
        refine ev_dup (ev_dt dt_Md_place_1 20 rfl) rfl ?_
        refine ev_get (v := .int (nI (F 4))) (ev_dt dt_Md_place_1 21 rfl) g_Md_180_10 hM7.1 rfl ?_
        refine ev_ic1 (ev_dt dt_Md_place_1 22 rfl) ?_
        refine ev_addn (ev_dt dt_Md_place_1 23 rfl) ?_
        refine rf_pt4 (ev_dt dt_Md_place_1 24 rfl) rfl hM7 (fun h8 hM8 hf8 => ?_)
        replace hf8 := hf7.tr hf8
        refine ev_aload_0 (ev_dt dt_Md_place_1 25 rfl) ?_
        refine ev_get (v := .int (nI ((F 4) + 1))) (ev_dt dt_Md_place_1 26 rfl) g_Md_180_10 hM8.1 rfl ?_
        refine ev_ic1 (ev_dt dt_Md_place_1 27 rfl) ?_
        refine ev_isub (ev_dt dt_Md_place_1 28 rfl) (nI_sub1 _) ?_
        exact ev_ireturn (ev_dt dt_Md_place_1 29 rfl) rfl rfl (kf hno (nI 1 <<< (c &&& 31)) (fun _ => rfl) (fun e => absurd (Int32.not_le.mp g1) e) h8 hM8 hf8)
    | succ m' ih =>
      intro j hj hI
      refine ev_iload_5 (ev_dt dt_Md_place_0 2 rfl) ?_
      refine ev_aload_0 (ev_dt dt_Md_place_0 3 rfl) ?_
      refine ev_get (v := .int (nI (F 4))) (ev_dt dt_Md_place_0 4 rfl) g_Md_180_10 hM.1 rfl ?_
      refine ev_icmp_geF (tgt := 66) (ev_dt dt_Md_place_0 5 rfl) (by decide) (nI_ge (by omega) (by omega)) ?_
      refine ev_aload_0 (ev_dt dt_Md_place_0 6 rfl) ?_
      refine ev_get (v := .ref (m + 21)) (ev_dt dt_Md_place_0 7 rfl) g_Md_71_10 hM.1 rfl ?_
      refine ev_iload_5 (ev_dt dt_Md_place_0 8 rfl) ?_
      refine ev_iald (f := A 20) (ev_dt dt_Md_place_0 9 rfl) hM.a20 (by omega) (by decide) rfl ?_
      refine ev_iload_1 (ev_dt dt_Md_place_0 10 rfl) ?_
      refine ev_icmp_ne (tgt := 60) (ev_dt dt_Md_place_0 11 rfl) (by decide) (fun e1 => ?_) (fun e1 => ?_)
      · refine ev_inc1_5 (ev_dt dt_Md_place_0 32 rfl) (by decide) rfl ?_
        refine ev_goto (tgt := 3) (ev_dt dt_Md_place_0 33 rfl) (by decide) ?_
        exact ih (j + 1) (by omega) (fun i hi => by
          by_cases e : i = j
          · subst e; exact fun q => e1 q.1
          · exact hI i (by omega))
      · refine ev_aload_0 (ev_dt dt_Md_place_0 12 rfl) ?_
        refine ev_get (v := .ref (m + 22)) (ev_dt dt_Md_place_0 13 rfl) g_Md_74_10 hM.1 rfl ?_
        refine ev_iload_5 (ev_dt dt_Md_place_0 14 rfl) ?_
        refine ev_iald (f := A 21) (ev_dt dt_Md_place_0 15 rfl) hM.a21 (by omega) (by decide) rfl ?_
        refine ev_iload_2 (ev_dt dt_Md_place_0 16 rfl) ?_
        refine ev_icmp_ne (tgt := 60) (ev_dt dt_Md_place_0 17 rfl) (by decide) (fun e2 => ?_) (fun e2 => ?_)
        · refine ev_inc1_5 (ev_dt dt_Md_place_0 32 rfl) (by decide) rfl ?_
          refine ev_goto (tgt := 3) (ev_dt dt_Md_place_0 33 rfl) (by decide) ?_
          exact ih (j + 1) (by omega) (fun i hi => by
            by_cases e : i = j
            · subst e; exact fun q => e2 q.2.1
            · exact hI i (by omega))
        · refine ev_aload_0 (ev_dt dt_Md_place_0 18 rfl) ?_
          refine ev_get (v := .ref (m + 23)) (ev_dt dt_Md_place_0 19 rfl) g_Md_77_10 hM.1 rfl ?_
          refine ev_iload_5 (ev_dt dt_Md_place_0 20 rfl) ?_
          refine ev_iald (f := A 22) (ev_dt dt_Md_place_0 21 rfl) hM.a22 (by omega) (by decide) rfl ?_
          refine ev_iload_3 (ev_dt dt_Md_place_0 22 rfl) ?_
          refine ev_icmp_ne (tgt := 60) (ev_dt dt_Md_place_0 23 rfl) (by decide) (fun e3 => ?_) (fun e3 => ?_)
          · refine ev_inc1_5 (ev_dt dt_Md_place_0 32 rfl) (by decide) rfl ?_
            refine ev_goto (tgt := 3) (ev_dt dt_Md_place_0 33 rfl) (by decide) ?_
            exact ih (j + 1) (by omega) (fun i hi => by
              by_cases e : i = j
              · subst e; exact fun q => e3 q.2.2.1
              · exact hI i (by omega))
          · refine ev_aload_0 (ev_dt dt_Md_place_0 24 rfl) ?_
            refine ev_get (v := .ref (m + 24)) (ev_dt dt_Md_place_0 25 rfl) g_Md_80_10 hM.1 rfl ?_
            refine ev_iload_5 (ev_dt dt_Md_place_0 26 rfl) ?_
            refine ev_iald (f := A 23) (ev_dt dt_Md_place_0 27 rfl) hM.a23 (by omega) (by decide) rfl ?_
            refine ev_iload_4 (ev_dt dt_Md_place_0 28 rfl) ?_
            refine ev_icmp_ne (tgt := 60) (ev_dt dt_Md_place_0 29 rfl) (by decide) (fun e4 => ?_) (fun e4 => ?_)
            · refine ev_inc1_5 (ev_dt dt_Md_place_0 32 rfl) (by decide) rfl ?_
              refine ev_goto (tgt := 3) (ev_dt dt_Md_place_0 33 rfl) (by decide) ?_
              exact ih (j + 1) (by omega) (fun i hi => by
                by_cases e : i = j
                · subst e; exact fun q => e4 q.2.2.2
                · exact hI i (by omega))
            · refine ev_iload_5 (ev_dt dt_Md_place_0 30 rfl) ?_
              exact ev_ireturn (ev_dt dt_Md_place_0 31 rfl) rfl rfl (kt j (by omega) ⟨e1, e2, e3, e4⟩)
  refine ev_ic0 (ev_dt dt_Md_place_0 0 rfl) ?_
  refine ev_istore_5 (ev_dt dt_Md_place_0 1 rfl) (by decide) rfl ?_
  exact loop (F 4) 0 (by omega) (fun i hi => absurd hi (Nat.not_lt_zero _))
end R16
