/-! The reference's methods: conditions, layers, answers, forms, edges (written by gen_r2.py over walk.py). -/
theorem uF_uF {F : Nat → Nat} {i x y : Nat} : uF (uF F i x) i y = uF F i y := by
  funext j
  unfold uF
  by_cases e : j = i
  · rw [if_pos e, if_pos e]
  · rw [if_neg e, if_neg e, if_neg e]
theorem uA_uA {A : Nat → Nat → Int32} {j i : Nat} {x y : Int32} : uA (uA A j i x) j i y = uA A j i y := by
  funext a
  unfold uA
  by_cases e : a = j
  · subst e
    rw [if_pos rfl, if_pos rfl, if_pos rfl]
    funext z
    by_cases ez : z = i
    · subst ez; rw [pk_us, pk_us]
    · rw [pk_un ez, pk_un ez, pk_un ez]
  · rw [if_neg e, if_neg e, if_neg e]
/-- the reference's nodes are these -/
def RN (A : Nat → Nat → Int32) (nc : Nat) (N : nod) (ed : Nat → Nat → Int32) (zs : Nat → Nat) : Prop := ∀ i, i < nc → A 2 i = nI (nK N i) ∧ nK N i ≤ 9 ∧ (nK N i < 6 → A 3 i = nI (nC N i) ∧ nC N i < 4) ∧ A 4 i = nA N i ∧ A 5 i = nB N i ∧ A 6 i = nI (zs i) ∧ zs i ≤ 40 ∧ (nK N i = 4 → ∀ v, v < 10 → A 7 (10 * i + v) = nY N i v) ∧ (nK N i = 5 → ∀ v, v < 10 → A 8 (10 * i + v) = ed i v)
section R2
variable {E : ev_E} {d : Nat} {h : ev_h} {sz k n : Nat} {Q : ev_Q}
variable {m : Nat} {F : Nat → Nat} {A : Nat → Nat → Int32}
theorem r_free (hM : Rf E m F A h) (kk : ∀ h', Rf E m (uF F 0 0) (uA A 10 4 (nI 0)) h' → fR m h h' → Q (.returned none) h' sz k n) : Ev E m_Md_free d 0 [some (.ref m)] [] h sz k n Q := by
  refine ev_aload_0 (ev_dt dt_Md_free_0 0 rfl) ?_
  refine ev_ic0 (ev_dt dt_Md_free_0 1 rfl) ?_
  refine rf_pt0 (ev_dt dt_Md_free_0 2 rfl) rfl hM (fun h1 hM1 hf1 => ?_)
  refine ev_aload_0 (ev_dt dt_Md_free_0 3 rfl) ?_
  refine ev_get (v := .ref (m + 11)) (ev_dt dt_Md_free_0 4 rfl) g_Md_41_10 hM1.1 rfl ?_
  refine ev_ic4 (ev_dt dt_Md_free_0 5 rfl) ?_
  refine ev_ic0 (ev_dt dt_Md_free_0 6 rfl) ?_
  refine rf_st10 (ev_dt dt_Md_free_0 7 rfl) hM1 (by omega) (fun h2 hM2 hf2 => ?_)
  replace hf2 := hf1.tr hf2
  exact ev_return (ev_dt dt_Md_free_0 8 rfl) rfl (kk h2 hM2 hf2)
theorem r_condition {x y v : Int32} {cc : Nat} (hM : Rf E m F A h) (hcc : A 10 4 = nI cc) (hc4 : cc ≤ 4) (k1 : (∀ l, l < 4 → x ≠ nI l) ∨ (∀ o, o < 6 → y ≠ nI o) → ∀ h', Rf E m (uF F 0 1) A h' → fR m h h' → Q (.returned (some (.int (nI 0)))) h' sz k n) (k2 : ∀ l o, l < 4 → x = nI l → o < 6 → y = nI o →  cc = 4 → ∀ h', Rf E m (uF F 0 2) A h' → fR m h h' → Q (.returned (some (.int (nI 0)))) h' sz k n) (kk : ∀ l o, l < 4 → x = nI l → o < 6 → y = nI o →  cc ≠ 4 → ∀ h', Rf E m (uF F 0 0) (uA (uA (uA (uA A 11 (16 + cc) (nI l)) 12 (16 + cc) (nI o)) 13 (16 + cc) v) 10 4 (nI (cc + 1))) h' → fR m h h' → Q (.returned (some (.int (nI (cc + 1))))) h' sz k n) : Ev E m_Md_condition (d + 1) 0 [some (.ref m), some (.int x), some (.int y), some (.int v), none] [] h sz k n Q := by
  refine ev_aload_0 (ev_dt dt_Md_condition_0 0 rfl) ?_
  refine ev_iload_1 (ev_dt dt_Md_condition_0 1 rfl) ?_
  refine ev_callS (ev_dt dt_Md_condition_0 2 rfl) s_Md_113 [.int x] rfl np_Md_isColumn rfl (ev_lk_of (j := 0) rfl rfl) (r_isColumn (fun hcol => ev_r1 ?_) (fun hcol => ev_r1 ?_))
  · obtain ⟨l, hl, rfl⟩ := hcol
    refine ev_if_eqF (tgt := 17) (ev_dt dt_Md_condition_0 3 rfl) (by decide) z10 ?_
    refine ev_iload_2 (ev_dt dt_Md_condition_0 4 rfl) ?_
    refine ev_if_lt (tgt := 17) (ev_dt dt_Md_condition_0 5 rfl) (by decide) (fun g1 => ?_) (fun g1 => ?_)
    · refine ev_ic1 (ev_dt dt_Md_condition_0 9 rfl) ?_
      refine ev_goto (tgt := 36) (ev_dt dt_Md_condition_0 10 rfl) (by decide) ?_
      refine rf_pt0 (ev_dt dt_Md_condition_0 20 rfl) rfl hM (fun h1 hM1 hf1 => ?_)
      refine ev_aload_0 (ev_dt dt_Md_condition_0 21 rfl) ?_
      refine ev_get (v := .int (nI 1)) (ev_dt dt_Md_condition_0 22 rfl) g_Md_95_10 hM1.1 rfl ?_
      refine ev_if_leF (tgt := 48) (ev_dt dt_Md_condition_0 23 rfl) (by decide) (by decide +kernel) ?_
      refine ev_ic0 (ev_dt dt_Md_condition_0 24 rfl) ?_
      exact ev_ireturn (ev_dt dt_Md_condition_0 25 rfl) rfl rfl (k1 (Or.inr (nI_nb (by decide) (Or.inl g1))) h1 hM1 hf1)
    · refine ev_iload_2 (ev_dt dt_Md_condition_0 6 rfl) ?_
      refine ev_ic5 (ev_dt dt_Md_condition_0 7 rfl) ?_
      refine ev_icmp_le (tgt := 21) (ev_dt dt_Md_condition_0 8 rfl) (by decide) (fun g2 => ?_) (fun g2 => ?_)
      · obtain ⟨o, ho, rfl⟩ := nI_bd (x := y) (c := 6) (by decide) g1 (fun e => absurd g2 (Int32.not_le.mpr (Int32.lt_of_lt_of_le (by decide +kernel) e)))
        refine ev_aload_0 (ev_dt dt_Md_condition_0 11 rfl) ?_
        refine ev_get (v := .ref (m + 11)) (ev_dt dt_Md_condition_0 12 rfl) g_Md_41_10 hM.1 rfl ?_
        refine ev_ic4 (ev_dt dt_Md_condition_0 13 rfl) ?_
        refine ev_iald (f := A 10) (ev_dt dt_Md_condition_0 14 rfl) hM.a10 (by omega) (by decide) rfl ?_
        rw [hcc]
        refine ev_ic4 (ev_dt dt_Md_condition_0 15 rfl) ?_
        refine ev_icmp_ne (tgt := 35) (ev_dt dt_Md_condition_0 16 rfl) (by decide) (fun g4 => ?_) (fun g4 => ?_)
        · have g4' : cc ≠ 4 := fun e => g4 (by rw [e])
          refine ev_ic0 (ev_dt dt_Md_condition_0 19 rfl) ?_
          refine rf_pt0 (ev_dt dt_Md_condition_0 20 rfl) rfl hM (fun h2 hM2 hf2 => ?_)
          refine ev_aload_0 (ev_dt dt_Md_condition_0 21 rfl) ?_
          refine ev_get (v := .int (nI 0)) (ev_dt dt_Md_condition_0 22 rfl) g_Md_95_10 hM2.1 rfl ?_
          refine ev_if_leT (tgt := 48) (ev_dt dt_Md_condition_0 23 rfl) (by decide) (by decide +kernel) ?_
          refine ev_bipush (ev_dt dt_Md_condition_0 26 rfl) bi_16 ?_
          refine ev_aload_0 (ev_dt dt_Md_condition_0 27 rfl) ?_
          refine ev_get (v := .ref (m + 11)) (ev_dt dt_Md_condition_0 28 rfl) g_Md_41_10 hM2.1 rfl ?_
          refine ev_ic4 (ev_dt dt_Md_condition_0 29 rfl) ?_
          refine ev_iald (f := A 10) (ev_dt dt_Md_condition_0 30 rfl) hM2.a10 (by omega) (by decide) rfl ?_
          rw [hcc]
          refine ev_addn (ev_dt dt_Md_condition_0 31 rfl) ?_
          refine ev_istore_4 (ev_dt dt_Md_condition_0 32 rfl) (by decide) rfl ?_
          refine ev_aload_0 (ev_dt dt_Md_condition_0 33 rfl) ?_
          refine ev_get (v := .ref (m + 12)) (ev_dt dt_Md_condition_0 34 rfl) g_Md_44_10 hM2.1 rfl ?_
          refine ev_iload_4 (ev_dt dt_Md_condition_0 35 rfl) ?_
          refine ev_iload_1 (ev_dt dt_Md_condition_0 36 rfl) ?_
          refine rf_st11 (ev_dt dt_Md_condition_0 37 rfl) hM2 (by omega) (fun h3 hM3 hf3 => ?_)
          replace hf3 := hf2.tr hf3
          refine ev_aload_0 (ev_dt dt_Md_condition_0 38 rfl) ?_
          refine ev_get (v := .ref (m + 13)) (ev_dt dt_Md_condition_0 39 rfl) g_Md_47_10 hM3.1 rfl ?_
          refine ev_iload_4 (ev_dt dt_Md_condition_0 40 rfl) ?_
          refine ev_iload_2 (ev_dt dt_Md_condition_0 41 rfl) ?_
          refine rf_st12 (ev_dt dt_Md_condition_0 42 rfl) hM3 (by omega) (fun h4 hM4 hf4 => ?_)
          replace hf4 := hf3.tr hf4
          refine ev_aload_0 (ev_dt dt_Md_condition_0 43 rfl) ?_
          refine ev_get (v := .ref (m + 14)) (ev_dt dt_Md_condition_0 44 rfl) g_Md_50_10 hM4.1 rfl ?_
          refine ev_iload_4 (ev_dt dt_Md_condition_0 45 rfl) ?_
          refine ev_iload_3 (ev_dt dt_Md_condition_0 46 rfl) ?_
          refine rf_st13 (ev_dt dt_Md_condition_0 47 rfl) hM4 (by omega) (fun h5 hM5 hf5 => ?_)
          replace hf5 := hf4.tr hf5
          refine ev_aload_0 (ev_dt dt_Md_condition_0 48 rfl) ?_
          refine ev_get (v := .ref (m + 11)) (ev_dt dt_Md_condition_0 49 rfl) g_Md_41_10 hM5.1 rfl ?_
          refine ev_ic4 (ev_dt dt_Md_condition_0 50 rfl) ?_
          refine ev_dup2 (ev_dt dt_Md_condition_0 51 rfl) rfl rfl ?_
          refine ev_iald (f := A 10) (ev_dt dt_Md_condition_0 52 rfl) hM5.a10 (by omega) (by decide) rfl ?_
          rw [hcc]
          refine ev_ic1 (ev_dt dt_Md_condition_0 53 rfl) ?_
          refine ev_addn (ev_dt dt_Md_condition_0 54 rfl) ?_
          refine rf_st10 (ev_dt dt_Md_condition_0 55 rfl) hM5 (by omega) (fun h6 hM6 hf6 => ?_)
          replace hf6 := hf5.tr hf6
          refine ev_aload_0 (ev_dt dt_Md_condition_0 56 rfl) ?_
          refine ev_get (v := .ref (m + 11)) (ev_dt dt_Md_condition_0 57 rfl) g_Md_41_10 hM6.1 rfl ?_
          refine ev_ic4 (ev_dt dt_Md_condition_0 58 rfl) ?_
          refine ev_iald (f := upd (A 10) 4 (nI (cc + 1))) (ev_dt dt_Md_condition_0 59 rfl) hM6.a10 (by omega) (by decide) rfl ?_
          rw [pk_us]
          exact ev_ireturn (ev_dt dt_Md_condition_1 0 rfl) rfl rfl (kk l o hl rfl ho rfl g4' h6 hM6 hf6)
        · refine ev_ic2 (ev_dt dt_Md_condition_0 17 rfl) ?_
          refine ev_goto (tgt := 36) (ev_dt dt_Md_condition_0 18 rfl) (by decide) ?_
          refine rf_pt0 (ev_dt dt_Md_condition_0 20 rfl) rfl hM (fun h7 hM7 hf7 => ?_)
          refine ev_aload_0 (ev_dt dt_Md_condition_0 21 rfl) ?_
          refine ev_get (v := .int (nI 2)) (ev_dt dt_Md_condition_0 22 rfl) g_Md_95_10 hM7.1 rfl ?_
          refine ev_if_leF (tgt := 48) (ev_dt dt_Md_condition_0 23 rfl) (by decide) (by decide +kernel) ?_
          refine ev_ic0 (ev_dt dt_Md_condition_0 24 rfl) ?_
          exact ev_ireturn (ev_dt dt_Md_condition_0 25 rfl) rfl rfl (k2 l o hl rfl ho rfl ((nI_eq (by omega) (by omega)).mp g4) h7 hM7 hf7)
      · refine ev_ic1 (ev_dt dt_Md_condition_0 9 rfl) ?_
        refine ev_goto (tgt := 36) (ev_dt dt_Md_condition_0 10 rfl) (by decide) ?_
        refine rf_pt0 (ev_dt dt_Md_condition_0 20 rfl) rfl hM (fun h8 hM8 hf8 => ?_)
        refine ev_aload_0 (ev_dt dt_Md_condition_0 21 rfl) ?_
        refine ev_get (v := .int (nI 1)) (ev_dt dt_Md_condition_0 22 rfl) g_Md_95_10 hM8.1 rfl ?_
        refine ev_if_leF (tgt := 48) (ev_dt dt_Md_condition_0 23 rfl) (by decide) (by decide +kernel) ?_
        refine ev_ic0 (ev_dt dt_Md_condition_0 24 rfl) ?_
        exact ev_ireturn (ev_dt dt_Md_condition_0 25 rfl) rfl rfl (k1 (Or.inr (nI_nb (by decide) (Or.inr (nI_5gt (Int32.not_le.mp g2))))) h8 hM8 hf8)
  · refine ev_if_eqT (tgt := 17) (ev_dt dt_Md_condition_0 3 rfl) (by decide) z00 ?_
    refine ev_ic1 (ev_dt dt_Md_condition_0 9 rfl) ?_
    refine ev_goto (tgt := 36) (ev_dt dt_Md_condition_0 10 rfl) (by decide) ?_
    refine rf_pt0 (ev_dt dt_Md_condition_0 20 rfl) rfl hM (fun h9 hM9 hf9 => ?_)
    refine ev_aload_0 (ev_dt dt_Md_condition_0 21 rfl) ?_
    refine ev_get (v := .int (nI 1)) (ev_dt dt_Md_condition_0 22 rfl) g_Md_95_10 hM9.1 rfl ?_
    refine ev_if_leF (tgt := 48) (ev_dt dt_Md_condition_0 23 rfl) (by decide) (by decide +kernel) ?_
    refine ev_ic0 (ev_dt dt_Md_condition_0 24 rfl) ?_
    exact ev_ireturn (ev_dt dt_Md_condition_0 25 rfl) rfl rfl (k1 (Or.inl hcol) h9 hM9 hf9)
theorem r_layer {x y l : Int32} {nc : Nat} {N : nod} {ed : Nat → Nat → Int32} {zs : Nat → Nat} (hM : Rf E m F A h) (hN : RN A nc N ed zs) (hF2 : F 2 = nc) (hnc : nc ≤ 24) (kf : (∀ i, i < nc → x ≠ nI i) ∨ (∀ v, v < 10 → y ≠ nI v) ∨ l < -1 ∨ nI 5 < l ∨ (∃ i, i < nc ∧ x = nI i ∧ nK N i ≠ 4) → ∀ h', Rf E m (uF F 0 0) A h' → fR m h h' → Q (.returned (some (.int (nI 0)))) h' sz k n) (kt : ∀ i v, i < nc → x = nI i → v < 10 → y = nI v → -1 ≤ l → l ≤ nI 5 → nK N i = 4 → ∀ h', Rf E m (uF F 0 0) (uA A 7 ((10 * i) + v) l) h' → fR m h h' → Q (.returned (some (.int (nI 1)))) h' sz k n) : Ev E m_Md_layer (d + 1) 0 [some (.ref m), some (.int x), some (.int y), some (.int l)] [] h sz k n Q := by
  refine ev_aload_0 (ev_dt dt_Md_layer_0 0 rfl) ?_
  refine ev_ic0 (ev_dt dt_Md_layer_0 1 rfl) ?_
  refine rf_pt0 (ev_dt dt_Md_layer_0 2 rfl) rfl hM (fun h1 hM1 hf1 => ?_)
  refine ev_aload_0 (ev_dt dt_Md_layer_0 3 rfl) ?_
  refine ev_iload_1 (ev_dt dt_Md_layer_0 4 rfl) ?_
  refine ev_callV (ev_dt dt_Md_layer_0 5 rfl) v_Md_116_10 hM1.1 [.int x] rfl np_Md_isNode rfl (ev_lk_of (j := 0) rfl rfl) (r_isNode hM1 (show F 2 ≤ 24 by omega) (fun (hx : ∃ j, j < F 2 ∧ x = nI j) => ev_r1 ?_) (fun (hx : ∀ j, j < F 2 → x ≠ nI j) => ev_r1 ?_))
  · obtain ⟨i, h_i, rfl⟩ : ∃ i, i < nc ∧ x = nI i := hF2 ▸ hx
    refine ev_if_eqF (tgt := 30) (ev_dt dt_Md_layer_0 6 rfl) (by decide) z10 ?_
    refine ev_iload_2 (ev_dt dt_Md_layer_0 7 rfl) ?_
    refine ev_callS (ev_dt dt_Md_layer_0 8 rfl) s_Md_119 [.int y] rfl np_Md_isPlain rfl (ev_lk_of (j := 0) rfl rfl) (r_isPlain (fun hgv => ev_r1 ?_) (fun hgv => ev_r1 ?_))
    · obtain ⟨v, hv, rfl⟩ := hgv
      refine ev_if_eqF (tgt := 30) (ev_dt dt_Md_layer_0 9 rfl) (by decide) z10 ?_
      refine ev_iload_3 (ev_dt dt_Md_layer_0 10 rfl) ?_
      refine ev_icm (ev_dt dt_Md_layer_0 11 rfl) ?_
      refine ev_icmp_lt (tgt := 30) (ev_dt dt_Md_layer_0 12 rfl) (by decide) (fun g1 => ?_) (fun g1 => ?_)
      · refine ev_ic0 (ev_dt dt_Md_layer_0 16 rfl) ?_
        exact ev_ireturn (ev_dt dt_Md_layer_0 17 rfl) rfl bz0 (kf (Or.inr (Or.inr (Or.inl g1))) h1 hM1 hf1)
      · refine ev_iload_3 (ev_dt dt_Md_layer_0 13 rfl) ?_
        refine ev_ic5 (ev_dt dt_Md_layer_0 14 rfl) ?_
        refine ev_icmp_le (tgt := 32) (ev_dt dt_Md_layer_0 15 rfl) (by decide) (fun g2 => ?_) (fun g2 => ?_)
        · refine ev_aload_0 (ev_dt dt_Md_layer_0 18 rfl) ?_
          refine ev_get (v := .ref (m + 3)) (ev_dt dt_Md_layer_0 19 rfl) g_Md_17_10 hM1.1 rfl ?_
          refine ev_iload_1 (ev_dt dt_Md_layer_0 20 rfl) ?_
          refine ev_iald (f := A 2) (ev_dt dt_Md_layer_0 21 rfl) hM1.a2 (by omega) (by decide) rfl ?_
          obtain ⟨hk, hk9, -⟩ := hN i h_i
          rw [hk]
          refine ev_ic4 (ev_dt dt_Md_layer_0 22 rfl) ?_
          refine ev_icmp_eq (tgt := 44) (ev_dt dt_Md_layer_0 23 rfl) (by decide) (fun g3 => ?_) (fun g3 => ?_)
          · refine ev_aload_0 (ev_dt dt_Md_layer_0 26 rfl) ?_
            refine ev_get (v := .ref (m + 8)) (ev_dt dt_Md_layer_0 27 rfl) g_Md_32_10 hM1.1 rfl ?_
            refine ev_bipush (ev_dt dt_Md_layer_0 28 rfl) bi_10 ?_
            refine ev_iload_1 (ev_dt dt_Md_layer_0 29 rfl) ?_
            refine ev_imul (ev_dt dt_Md_layer_0 30 rfl) (nI_mul _ _) ?_
            refine ev_iload_2 (ev_dt dt_Md_layer_0 31 rfl) ?_
            refine ev_addn (ev_dt dt_Md_layer_0 32 rfl) ?_
            refine ev_iload_3 (ev_dt dt_Md_layer_0 33 rfl) ?_
            refine rf_st7 (ev_dt dt_Md_layer_0 34 rfl) hM1 (by omega) (fun h2 hM2 hf2 => ?_)
            replace hf2 := hf1.tr hf2
            refine ev_ic1 (ev_dt dt_Md_layer_0 35 rfl) ?_
            exact ev_ireturn (ev_dt dt_Md_layer_0 36 rfl) rfl bz1 (kt i v h_i rfl hv rfl (Int32.not_lt.mp g1) g2 ((nI_eq (by omega) (by omega)).mp g3) h2 hM2 hf2)
          · refine ev_ic0 (ev_dt dt_Md_layer_0 24 rfl) ?_
            exact ev_ireturn (ev_dt dt_Md_layer_0 25 rfl) rfl bz0 (kf (Or.inr (Or.inr (Or.inr (Or.inr ⟨i, h_i, rfl, fun e => g3 (by rw [e])⟩)))) h1 hM1 hf1)
        · refine ev_ic0 (ev_dt dt_Md_layer_0 16 rfl) ?_
          exact ev_ireturn (ev_dt dt_Md_layer_0 17 rfl) rfl bz0 (kf (Or.inr (Or.inr (Or.inr (Or.inl (Int32.not_le.mp g2))))) h1 hM1 hf1)
    · refine ev_if_eqT (tgt := 30) (ev_dt dt_Md_layer_0 9 rfl) (by decide) z00 ?_
      refine ev_ic0 (ev_dt dt_Md_layer_0 16 rfl) ?_
      exact ev_ireturn (ev_dt dt_Md_layer_0 17 rfl) rfl bz0 (kf (Or.inr (Or.inl hgv)) h1 hM1 hf1)
  · replace hx : ∀ i, i < nc → x ≠ nI i := hF2 ▸ hx
    refine ev_if_eqT (tgt := 30) (ev_dt dt_Md_layer_0 6 rfl) (by decide) z00 ?_
    refine ev_ic0 (ev_dt dt_Md_layer_0 16 rfl) ?_
    exact ev_ireturn (ev_dt dt_Md_layer_0 17 rfl) rfl bz0 (kf (Or.inl hx) h1 hM1 hf1)
theorem r_answer {x : Int32} (hM : Rf E m F A h) (hF3 : F 3 ≤ 24) (kc : x = -1 → ∀ h', Rf E m (uF F 0 0) A h' → fR m h h' → Q (.returned (some (.int (nI (F 3))))) h' sz k n) (kn : x ≠ -1 → (∀ j, j < F 3 → x ≠ nI j) → ∀ h', Rf E m (uF F 0 0) A h' → fR m h h' → Q (.returned (some (.int (-1)))) h' sz k n) (ka : ∀ j, j < F 3 → x = nI j → ∀ h', Rf E m (uF F 0 0) A h' → fR m h h' → Q (.returned (some (.int (A 19 j)))) h' sz k n) : Ev E m_Md_answer d 0 [some (.ref m), some (.int x)] [] h sz k n Q := by
  refine ev_aload_0 (ev_dt dt_Md_answer_0 0 rfl) ?_
  refine ev_ic0 (ev_dt dt_Md_answer_0 1 rfl) ?_
  refine rf_pt0 (ev_dt dt_Md_answer_0 2 rfl) rfl hM (fun h1 hM1 hf1 => ?_)
  refine ev_iload_1 (ev_dt dt_Md_answer_0 3 rfl) ?_
  refine ev_icm (ev_dt dt_Md_answer_0 4 rfl) ?_
  refine ev_icmp_ne (tgt := 17) (ev_dt dt_Md_answer_0 5 rfl) (by decide) (fun g1 => ?_) (fun g1 => ?_)
  · refine ev_iload_1 (ev_dt dt_Md_answer_0 9 rfl) ?_
    refine ev_if_lt (tgt := 29) (ev_dt dt_Md_answer_0 10 rfl) (by decide) (fun g2 => ?_) (fun g2 => ?_)
    · refine ev_icm (ev_dt dt_Md_answer_0 15 rfl) ?_
      refine ev_goto (tgt := 39) (ev_dt dt_Md_answer_0 16 rfl) (by decide) ?_
      exact ev_ireturn (ev_dt dt_Md_answer_0 21 rfl) rfl rfl (kn g1 (nI_nb (by omega) (Or.inl g2)) h1 hM1 hf1)
    · refine ev_iload_1 (ev_dt dt_Md_answer_0 11 rfl) ?_
      refine ev_aload_0 (ev_dt dt_Md_answer_0 12 rfl) ?_
      refine ev_get (v := .int (nI (F 3))) (ev_dt dt_Md_answer_0 13 rfl) g_Md_163_10 hM1.1 rfl ?_
      refine ev_icmp_lt (tgt := 33) (ev_dt dt_Md_answer_0 14 rfl) (by decide) (fun g3 => ?_) (fun g3 => ?_)
      · obtain ⟨j, hj, rfl⟩ := nI_bd (c := F 3) (by omega) g2 (Int32.not_le.mpr g3)
        refine ev_aload_0 (ev_dt dt_Md_answer_0 17 rfl) ?_
        refine ev_get (v := .ref (m + 20)) (ev_dt dt_Md_answer_0 18 rfl) g_Md_68_10 hM1.1 rfl ?_
        refine ev_iload_1 (ev_dt dt_Md_answer_0 19 rfl) ?_
        refine ev_iald (f := A 19) (ev_dt dt_Md_answer_0 20 rfl) hM1.a19 (by omega) (by decide) rfl ?_
        exact ev_ireturn (ev_dt dt_Md_answer_0 21 rfl) rfl rfl (ka j hj rfl h1 hM1 hf1)
      · refine ev_icm (ev_dt dt_Md_answer_0 15 rfl) ?_
        refine ev_goto (tgt := 39) (ev_dt dt_Md_answer_0 16 rfl) (by decide) ?_
        exact ev_ireturn (ev_dt dt_Md_answer_0 21 rfl) rfl rfl (kn g1 (nI_nb (by omega) (Or.inr (Int32.not_lt.mp g3))) h1 hM1 hf1)
  · refine ev_aload_0 (ev_dt dt_Md_answer_0 6 rfl) ?_
    refine ev_get (v := .int (nI (F 3))) (ev_dt dt_Md_answer_0 7 rfl) g_Md_163_10 hM1.1 rfl ?_
    refine ev_goto (tgt := 39) (ev_dt dt_Md_answer_0 8 rfl) (by decide) ?_
    exact ev_ireturn (ev_dt dt_Md_answer_0 21 rfl) rfl rfl (kc g1 h1 hM1 hf1)
theorem r_form {x : Int32} (hM : Rf E m F A h) (hF5 : F 5 ≤ 160) (kx : (∀ j, j < F 5 → x ≠ nI j) → ∀ h', Rf E m (uF F 0 1) A h' → fR m h h' → Q (.returned (some (.int (nI 0)))) h' sz k n) (kk : ∀ j, j < F 5 → x = nI j → ∀ h', Rf E m (uF F 0 0) A h' → fR m h h' → Q (.returned (some (.int (A 26 j)))) h' sz k n) : Ev E m_Md_form d 0 [some (.ref m), some (.int x)] [] h sz k n Q := by
  refine ev_aload_0 (ev_dt dt_Md_form_0 0 rfl) ?_
  refine ev_iload_1 (ev_dt dt_Md_form_0 1 rfl) ?_
  refine ev_if_lt (tgt := 17) (ev_dt dt_Md_form_0 2 rfl) (by decide) (fun g1 => ?_) (fun g1 => ?_)
  · refine ev_ic1 (ev_dt dt_Md_form_0 9 rfl) ?_
    refine rf_pt0 (ev_dt dt_Md_form_0 10 rfl) rfl hM (fun h1 hM1 hf1 => ?_)
    refine ev_aload_0 (ev_dt dt_Md_form_0 11 rfl) ?_
    refine ev_get (v := .int (nI 1)) (ev_dt dt_Md_form_0 12 rfl) g_Md_95_10 hM1.1 rfl ?_
    refine ev_if_leF (tgt := 32) (ev_dt dt_Md_form_0 13 rfl) (by decide) (by decide +kernel) ?_
    refine ev_ic0 (ev_dt dt_Md_form_0 14 rfl) ?_
    refine ev_goto (tgt := 38) (ev_dt dt_Md_form_0 15 rfl) (by decide) ?_
    exact ev_ireturn (ev_dt dt_Md_form_0 20 rfl) rfl rfl (kx (nI_nb (by omega) (Or.inl g1)) h1 hM1 hf1)
  · refine ev_iload_1 (ev_dt dt_Md_form_0 3 rfl) ?_
    refine ev_aload_0 (ev_dt dt_Md_form_0 4 rfl) ?_
    refine ev_get (v := .int (nI (F 5))) (ev_dt dt_Md_form_0 5 rfl) g_Md_190_10 hM.1 rfl ?_
    refine ev_icmp_ge (tgt := 17) (ev_dt dt_Md_form_0 6 rfl) (by decide) (fun g2 => ?_) (fun g2 => ?_)
    · refine ev_ic1 (ev_dt dt_Md_form_0 9 rfl) ?_
      refine rf_pt0 (ev_dt dt_Md_form_0 10 rfl) rfl hM (fun h2 hM2 hf2 => ?_)
      refine ev_aload_0 (ev_dt dt_Md_form_0 11 rfl) ?_
      refine ev_get (v := .int (nI 1)) (ev_dt dt_Md_form_0 12 rfl) g_Md_95_10 hM2.1 rfl ?_
      refine ev_if_leF (tgt := 32) (ev_dt dt_Md_form_0 13 rfl) (by decide) (by decide +kernel) ?_
      refine ev_ic0 (ev_dt dt_Md_form_0 14 rfl) ?_
      refine ev_goto (tgt := 38) (ev_dt dt_Md_form_0 15 rfl) (by decide) ?_
      exact ev_ireturn (ev_dt dt_Md_form_0 20 rfl) rfl rfl (kx (nI_nb (by omega) (Or.inr g2)) h2 hM2 hf2)
    · obtain ⟨j, hj, rfl⟩ := nI_bd (c := F 5) (by omega) g1 g2
      refine ev_ic0 (ev_dt dt_Md_form_0 7 rfl) ?_
      refine ev_goto (tgt := 18) (ev_dt dt_Md_form_0 8 rfl) (by decide) ?_
      refine rf_pt0 (ev_dt dt_Md_form_0 10 rfl) rfl hM (fun h3 hM3 hf3 => ?_)
      refine ev_aload_0 (ev_dt dt_Md_form_0 11 rfl) ?_
      refine ev_get (v := .int (nI 0)) (ev_dt dt_Md_form_0 12 rfl) g_Md_95_10 hM3.1 rfl ?_
      refine ev_if_leT (tgt := 32) (ev_dt dt_Md_form_0 13 rfl) (by decide) (by decide +kernel) ?_
      refine ev_aload_0 (ev_dt dt_Md_form_0 16 rfl) ?_
      refine ev_get (v := .ref (m + 27)) (ev_dt dt_Md_form_0 17 rfl) g_Md_89_10 hM3.1 rfl ?_
      refine ev_iload_1 (ev_dt dt_Md_form_0 18 rfl) ?_
      refine ev_iald (f := A 26) (ev_dt dt_Md_form_0 19 rfl) hM3.a26 (by omega) (by decide) rfl ?_
      exact ev_ireturn (ev_dt dt_Md_form_0 20 rfl) rfl rfl (kk j hj rfl h3 hM3 hf3)
theorem r_reached_in {i x r : Nat} (hM : Rf E m F A h) (hi : i < 24) (hx : x < 10) : ∀ m' j, j + m' = 10 → Ev E m_Md_reached d 15 [some (.ref m), some (.int (nI i)), some (.int (nI x)), some (.int (sv (fun v => A 8 (10 * i + v)) (rn (fun v => A 8 (10 * i + v)) (A 8 (10 * i + x)) r) 10)), some (.int (nI (r + 1))), none] [] h sz k n Q → Ev E m_Md_reached d 25 [some (.ref m), some (.int (nI i)), some (.int (nI x)), some (.int (sv (fun v => A 8 (10 * i + v)) (rn (fun v => A 8 (10 * i + v)) (A 8 (10 * i + x)) r) j)), some (.int (nI r)), some (.int (nI j))] [] h sz k n Q := by
    intro m'
    induction m' with
    | zero =>
      intro j hj kO
      refine ev_iload_5 (ev_dt dt_Md_reached_0 16 rfl) ?_
      refine ev_bipush (ev_dt dt_Md_reached_0 17 rfl) bi_10 ?_
      refine ev_icmp_geT (tgt := 67) (ev_dt dt_Md_reached_0 18 rfl) (by decide) (nI_le (by omega) (by omega)) ?_
      refine ev_inc1_4 (ev_dt dt_Md_reached_0 41 rfl) (by decide) rfl ?_
      refine ev_goto (tgt := 15) (ev_dt dt_Md_reached_0 42 rfl) (by decide) ?_
      rw [show j = 10 by omega]
      refine ev_fg_5 ?_
      exact kO
    | succ m' ih =>
      intro j hj kO
      refine ev_iload_5 (ev_dt dt_Md_reached_0 16 rfl) ?_
      refine ev_bipush (ev_dt dt_Md_reached_0 17 rfl) bi_10 ?_
      refine ev_icmp_geF (tgt := 67) (ev_dt dt_Md_reached_0 18 rfl) (by decide) (nI_ge (by omega) (by omega)) ?_
      refine ev_iload_3 (ev_dt dt_Md_reached_0 19 rfl) ?_
      refine ev_iload_5 (ev_dt dt_Md_reached_0 20 rfl) ?_
      refine ev_ishr (ev_dt dt_Md_reached_0 21 rfl) rfl ?_
      refine ev_ic1 (ev_dt dt_Md_reached_0 22 rfl) ?_
      refine ev_iand (ev_dt dt_Md_reached_0 23 rfl) rfl ?_
      refine ev_ic1 (ev_dt dt_Md_reached_0 24 rfl) ?_
      refine ev_icmp_ne (tgt := 59) (ev_dt dt_Md_reached_0 25 rfl) (by decide) (fun g1 => ?_) (fun g1 => ?_)
      · refine ev_iload_3 (ev_dt dt_Md_reached_0 37 rfl) ?_
        refine ev_istore_3 (ev_dt dt_Md_reached_0 38 rfl) (by decide) rfl ?_
        refine ev_inc1_5 (ev_dt dt_Md_reached_0 39 rfl) (by decide) rfl ?_
        refine ev_goto (tgt := 25) (ev_dt dt_Md_reached_0 40 rfl) (by decide) ?_
        have e : sv (fun v => A 8 (10 * i + v)) (rn (fun v => A 8 (10 * i + v)) (A 8 (10 * i + x)) r) (j + 1) = sv (fun v => A 8 (10 * i + v)) (rn (fun v => A 8 (10 * i + v)) (A 8 (10 * i + x)) r) j := by rw [sv, if_neg (fun e => g1 ((q_tst (by omega)).mpr e))]
        rw [← e]
        exact ih (j + 1) (by omega) kO
      · refine ev_iload_3 (ev_dt dt_Md_reached_0 26 rfl) ?_
        refine ev_aload_0 (ev_dt dt_Md_reached_0 27 rfl) ?_
        refine ev_get (v := .ref (m + 9)) (ev_dt dt_Md_reached_0 28 rfl) g_Md_35_10 hM.1 rfl ?_
        refine ev_bipush (ev_dt dt_Md_reached_0 29 rfl) bi_10 ?_
        refine ev_iload_1 (ev_dt dt_Md_reached_0 30 rfl) ?_
        refine ev_imul (ev_dt dt_Md_reached_0 31 rfl) (nI_mul _ _) ?_
        refine ev_iload_5 (ev_dt dt_Md_reached_0 32 rfl) ?_
        refine ev_addn (ev_dt dt_Md_reached_0 33 rfl) ?_
        refine ev_iald (f := A 8) (ev_dt dt_Md_reached_0 34 rfl) hM.a8 (by omega) (by decide) rfl ?_
        refine ev_ior (ev_dt dt_Md_reached_0 35 rfl) rfl ?_
        refine ev_goto (tgt := 60) (ev_dt dt_Md_reached_0 36 rfl) (by decide) ?_
        refine ev_istore_3 (ev_dt dt_Md_reached_0 38 rfl) (by decide) rfl ?_
        refine ev_inc1_5 (ev_dt dt_Md_reached_0 39 rfl) (by decide) rfl ?_
        refine ev_goto (tgt := 25) (ev_dt dt_Md_reached_0 40 rfl) (by decide) ?_
        have e : sv (fun v => A 8 (10 * i + v)) (rn (fun v => A 8 (10 * i + v)) (A 8 (10 * i + x)) r) (j + 1) = sv (fun v => A 8 (10 * i + v)) (rn (fun v => A 8 (10 * i + v)) (A 8 (10 * i + x)) r) j ||| A 8 (10 * i + j) := by rw [sv, if_pos ((q_tst (by omega)).mp g1)]
        rw [← e]
        exact ih (j + 1) (by omega) kO
theorem r_reached {i x : Nat} (hM : Rf E m F A h) (hi : i < 24) (hx : x < 10) (kk : Q (.returned (some (.int (rn (fun v => A 8 (10 * i + v)) (A 8 (10 * i + x)) 10)))) h sz k n) : Ev E m_Md_reached d 0 [some (.ref m), some (.int (nI i)), some (.int (nI x)), none, none, none] [] h sz k n Q := by
  have loop : ∀ m' r, r + m' = 10 → Ev E m_Md_reached d 15 [some (.ref m), some (.int (nI i)), some (.int (nI x)), some (.int (rn (fun v => A 8 (10 * i + v)) (A 8 (10 * i + x)) r)), some (.int (nI r)), none] [] h sz k n Q := by
    intro m'
    induction m' with
    | zero =>
      intro r hr
      refine ev_iload_4 (ev_dt dt_Md_reached_0 11 rfl) ?_
      refine ev_bipush (ev_dt dt_Md_reached_0 12 rfl) bi_10 ?_
      refine ev_icmp_geT (tgt := 73) (ev_dt dt_Md_reached_0 13 rfl) (by decide) (nI_le (by omega) (by omega)) ?_
      refine ev_iload_3 (ev_dt dt_Md_reached_0 43 rfl) ?_
      rw [show r = 10 by omega]
      exact ev_ireturn (ev_dt dt_Md_reached_0 44 rfl) rfl rfl kk
    | succ m' ih =>
      intro r hr
      refine ev_iload_4 (ev_dt dt_Md_reached_0 11 rfl) ?_
      refine ev_bipush (ev_dt dt_Md_reached_0 12 rfl) bi_10 ?_
      refine ev_icmp_geF (tgt := 73) (ev_dt dt_Md_reached_0 13 rfl) (by decide) (nI_ge (by omega) (by omega)) ?_
      refine ev_ic0 (ev_dt dt_Md_reached_0 14 rfl) ?_
      refine ev_istore_5 (ev_dt dt_Md_reached_0 15 rfl) (by decide) rfl ?_
      exact r_reached_in hM hi hx 10 0 (by omega) (ih (r + 1) (by omega))
  refine ev_aload_0 (ev_dt dt_Md_reached_0 0 rfl) ?_
  refine ev_get (v := .ref (m + 9)) (ev_dt dt_Md_reached_0 1 rfl) g_Md_35_10 hM.1 rfl ?_
  refine ev_bipush (ev_dt dt_Md_reached_0 2 rfl) bi_10 ?_
  refine ev_iload_1 (ev_dt dt_Md_reached_0 3 rfl) ?_
  refine ev_imul (ev_dt dt_Md_reached_0 4 rfl) (nI_mul _ _) ?_
  refine ev_iload_2 (ev_dt dt_Md_reached_0 5 rfl) ?_
  refine ev_addn (ev_dt dt_Md_reached_0 6 rfl) ?_
  refine ev_iald (f := A 8) (ev_dt dt_Md_reached_0 7 rfl) hM.a8 (by omega) (by decide) rfl ?_
  refine ev_istore_3 (ev_dt dt_Md_reached_0 8 rfl) (by decide) rfl ?_
  refine ev_ic0 (ev_dt dt_Md_reached_0 9 rfl) ?_
  refine ev_istore_4 (ev_dt dt_Md_reached_0 10 rfl) (by decide) rfl ?_
  exact loop 10 0 (by omega)
theorem r_edge {x y z : Int32} {nc : Nat} {N : nod} {ed : Nat → Nat → Int32} {zs : Nat → Nat} (hM : Rf E m F A h) (hN : RN A nc N ed zs) (hF2 : F 2 = nc) (hnc : nc ≤ 24) (k1 : (∀ i, i < nc → x ≠ nI i) ∨ (∀ v, v < 10 → y ≠ nI v) ∨ (∀ v, v < 10 → z ≠ nI v) ∨ (∃ i, i < nc ∧ x = nI i ∧ nK N i ≠ 5) → ∀ h', Rf E m (uF F 0 1) A h' → fR m h h' → Q (.returned (some (.int (nI 0)))) h' sz k n) (kf : ∀ i b w, i < nc → x = nI i → b < 10 → y = nI b → w < 10 → z = nI w → nK N i = 5 →  bt (ed i b) w = true → ∀ h', Rf E m (uF F 0 0) A h' → fR m h h' → Q (.returned (some (.int (nI 0)))) h' sz k n) (k2 : ∀ i b w, i < nc → x = nI i → b < 10 → y = nI b → w < 10 → z = nI w → nK N i = 5 →  bt (ed i b) w = false → b = w ∨ bt (rn (fun v => A 8 (10 * i + v)) (A 8 (10 * i + w)) 10) b = true → ∀ h', Rf E m (uF F 0 2) A h' → fR m h h' → Q (.returned (some (.int (nI 0)))) h' sz k n) (kt : ∀ i b w, i < nc → x = nI i → b < 10 → y = nI b → w < 10 → z = nI w → nK N i = 5 →  bt (ed i b) w = false → b ≠ w → bt (rn (fun v => A 8 (10 * i + v)) (A 8 (10 * i + w)) 10) b = false → ∀ h', Rf E m (uF F 0 0) (uA A 8 ((10 * i) + b) ((A 8 ((10 * i) + b)) ||| ((nI 1) <<< ((nI w) &&& 31)))) h' → fR m h h' → Q (.returned (some (.int (nI 1)))) h' sz k n) : Ev E m_Md_edge (d + 1) 0 [some (.ref m), some (.int x), some (.int y), some (.int z)] [] h sz k n Q := by
  refine ev_aload_0 (ev_dt dt_Md_edge_0 0 rfl) ?_
  refine ev_aload_0 (ev_dt dt_Md_edge_0 1 rfl) ?_
  refine ev_iload_1 (ev_dt dt_Md_edge_0 2 rfl) ?_
  refine ev_callV (ev_dt dt_Md_edge_0 3 rfl) v_Md_116_10 hM.1 [.int x] rfl np_Md_isNode rfl (ev_lk_of (j := 0) rfl rfl) (r_isNode hM (show F 2 ≤ 24 by omega) (fun (hx : ∃ j, j < F 2 ∧ x = nI j) => ev_r1 ?_) (fun (hx : ∀ j, j < F 2 → x ≠ nI j) => ev_r1 ?_))
  · obtain ⟨i, h_i, rfl⟩ : ∃ i, i < nc ∧ x = nI i := hF2 ▸ hx
    refine ev_if_eqF (tgt := 23) (ev_dt dt_Md_edge_0 4 rfl) (by decide) z10 ?_
    refine ev_iload_2 (ev_dt dt_Md_edge_0 5 rfl) ?_
    refine ev_callS (ev_dt dt_Md_edge_0 6 rfl) s_Md_119 [.int y] rfl np_Md_isPlain rfl (ev_lk_of (j := 0) rfl rfl) (r_isPlain (fun hgb => ev_r1 ?_) (fun hgb => ev_r1 ?_))
    · obtain ⟨b, hb, rfl⟩ := hgb
      refine ev_if_eqF (tgt := 23) (ev_dt dt_Md_edge_0 7 rfl) (by decide) z10 ?_
      refine ev_iload_3 (ev_dt dt_Md_edge_0 8 rfl) ?_
      refine ev_callS (ev_dt dt_Md_edge_0 9 rfl) s_Md_119 [.int z] rfl np_Md_isPlain rfl (ev_lk_of (j := 0) rfl rfl) (r_isPlain (fun hgw => ev_r1 ?_) (fun hgw => ev_r1 ?_))
      · obtain ⟨w, hw, rfl⟩ := hgw
        refine ev_if_neT (tgt := 27) (ev_dt dt_Md_edge_0 10 rfl) (by decide) z10 ?_
        refine ev_ic0 (ev_dt dt_Md_edge_0 13 rfl) ?_
        refine rf_pt0 (ev_dt dt_Md_edge_0 14 rfl) rfl hM (fun h1 hM1 hf1 => ?_)
        refine ev_aload_0 (ev_dt dt_Md_edge_0 15 rfl) ?_
        refine ev_get (v := .int (nI 0)) (ev_dt dt_Md_edge_0 16 rfl) g_Md_95_10 hM1.1 rfl ?_
        refine ev_if_leT (tgt := 40) (ev_dt dt_Md_edge_0 17 rfl) (by decide) (by decide +kernel) ?_
        refine ev_aload_0 (ev_dt dt_Md_edge_0 20 rfl) ?_
        refine ev_aload_0 (ev_dt dt_Md_edge_0 21 rfl) ?_
        refine ev_get (v := .ref (m + 3)) (ev_dt dt_Md_edge_0 22 rfl) g_Md_17_10 hM1.1 rfl ?_
        refine ev_iload_1 (ev_dt dt_Md_edge_0 23 rfl) ?_
        refine ev_iald (f := A 2) (ev_dt dt_Md_edge_0 24 rfl) hM1.a2 (by omega) (by decide) rfl ?_
        obtain ⟨hk, hk9, -, -, -, -, -, -, he⟩ := hN i h_i
        rw [hk]
        refine ev_ic5 (ev_dt dt_Md_edge_0 25 rfl) ?_
        refine ev_icmp_eq (tgt := 55) (ev_dt dt_Md_edge_0 26 rfl) (by decide) (fun g1 => ?_) (fun g1 => ?_)
        · have hk5 : nK N i = 5 := (nI_eq (by omega) (by omega)).mp g1
          refine ev_ic0 (ev_dt dt_Md_edge_0 29 rfl) ?_
          refine rf_pt0 (ev_dt dt_Md_edge_0 30 rfl) rfl hM1 (fun h2 hM2 hf2 => ?_)
          replace hf2 := hf1.tr hf2
          rw [uF_uF] at hM2
          refine ev_aload_0 (ev_dt dt_Md_edge_0 31 rfl) ?_
          refine ev_get (v := .int (nI 0)) (ev_dt dt_Md_edge_0 32 rfl) g_Md_95_10 hM2.1 rfl ?_
          refine ev_if_gtF (tgt := 85) (ev_dt dt_Md_edge_0 33 rfl) (by decide) (by decide +kernel) ?_
          refine ev_aload_0 (ev_dt dt_Md_edge_0 34 rfl) ?_
          refine ev_get (v := .ref (m + 9)) (ev_dt dt_Md_edge_0 35 rfl) g_Md_35_10 hM2.1 rfl ?_
          refine ev_bipush (ev_dt dt_Md_edge_0 36 rfl) bi_10 ?_
          refine ev_iload_1 (ev_dt dt_Md_edge_0 37 rfl) ?_
          refine ev_imul (ev_dt dt_Md_edge_0 38 rfl) (nI_mul _ _) ?_
          refine ev_iload_2 (ev_dt dt_Md_edge_0 39 rfl) ?_
          refine ev_addn (ev_dt dt_Md_edge_0 40 rfl) ?_
          refine ev_iald (f := A 8) (ev_dt dt_Md_edge_0 41 rfl) hM2.a8 (by omega) (by decide) rfl ?_
          rw [he hk5 b hb]
          refine ev_iload_3 (ev_dt dt_Md_edge_0 42 rfl) ?_
          refine ev_ishr (ev_dt dt_Md_edge_0 43 rfl) rfl ?_
          refine ev_ic1 (ev_dt dt_Md_edge_0 44 rfl) ?_
          refine ev_iand (ev_dt dt_Md_edge_0 45 rfl) rfl ?_
          refine ev_ic1 (ev_dt dt_Md_edge_0 46 rfl) ?_
          refine ev_icmp_ne (tgt := 87) (ev_dt dt_Md_edge_0 47 rfl) (by decide) (fun g2 => ?_) (fun g2 => ?_)
          · have g2' : bt (ed i b) w = false := Bool.eq_false_iff.mpr (fun e => g2 ((q_tst (by omega)).mpr e))
            refine ev_aload_0 (ev_dt dt_Md_edge_0 50 rfl) ?_
            refine ev_iload_2 (ev_dt dt_Md_edge_0 51 rfl) ?_
            refine ev_iload_3 (ev_dt dt_Md_edge_0 52 rfl) ?_
            refine ev_icmp_eq (tgt := 107) (ev_dt dt_Md_edge_0 53 rfl) (by decide) (fun g3 => ?_) (fun g3 => ?_)
            · refine ev_ic2 (ev_dt dt_Md_edge_1 4 rfl) ?_
              refine ev_goto (tgt := 112) (ev_dt dt_Md_edge_1 5 rfl) (by decide) ?_
              refine rf_pt0 (ev_dt dt_Md_edge_1 7 rfl) rfl hM2 (fun h3 hM3 hf3 => ?_)
              replace hf3 := hf2.tr hf3
              rw [uF_uF] at hM3
              refine ev_aload_0 (ev_dt dt_Md_edge_1 8 rfl) ?_
              refine ev_get (v := .int (nI 2)) (ev_dt dt_Md_edge_1 9 rfl) g_Md_95_10 hM3.1 rfl ?_
              refine ev_if_leF (tgt := 124) (ev_dt dt_Md_edge_1 10 rfl) (by decide) (by decide +kernel) ?_
              refine ev_ic0 (ev_dt dt_Md_edge_1 11 rfl) ?_
              exact ev_ireturn (ev_dt dt_Md_edge_1 12 rfl) rfl bz0 (k2 i b w h_i rfl hb rfl hw rfl hk5 g2' (Or.inl ((nI_eq (by omega) (by omega)).mp g3)) h3 hM3 hf3)
            · have g3' : b ≠ w := fun e => g3 (by rw [e])
              refine ev_aload_0 (ev_dt dt_Md_edge_0 54 rfl) ?_
              refine ev_iload_1 (ev_dt dt_Md_edge_0 55 rfl) ?_
              refine ev_iload_3 (ev_dt dt_Md_edge_0 56 rfl) ?_
              refine ev_callV (ev_dt dt_Md_edge_0 57 rfl) v_Md_122_10 hM2.1 [.int (nI i), .int (nI w)] rfl np_Md_reached rfl (ev_lk_of (j := 3) rfl rfl) (r_reached hM2 (by omega) hw (ev_r1 ?_))
              refine ev_iload_2 (ev_dt dt_Md_edge_0 58 rfl) ?_
              refine ev_ishr (ev_dt dt_Md_edge_0 59 rfl) rfl ?_
              refine ev_ic1 (ev_dt dt_Md_edge_1 0 rfl) ?_
              refine ev_iand (ev_dt dt_Md_edge_1 1 rfl) rfl ?_
              refine ev_ic1 (ev_dt dt_Md_edge_1 2 rfl) ?_
              refine ev_icmp_ne (tgt := 111) (ev_dt dt_Md_edge_1 3 rfl) (by decide) (fun g4 => ?_) (fun g4 => ?_)
              · refine ev_ic0 (ev_dt dt_Md_edge_1 6 rfl) ?_
                refine rf_pt0 (ev_dt dt_Md_edge_1 7 rfl) rfl hM2 (fun h4 hM4 hf4 => ?_)
                replace hf4 := hf2.tr hf4
                rw [uF_uF] at hM4
                refine ev_aload_0 (ev_dt dt_Md_edge_1 8 rfl) ?_
                refine ev_get (v := .int (nI 0)) (ev_dt dt_Md_edge_1 9 rfl) g_Md_95_10 hM4.1 rfl ?_
                refine ev_if_leT (tgt := 124) (ev_dt dt_Md_edge_1 10 rfl) (by decide) (by decide +kernel) ?_
                refine ev_aload_0 (ev_dt dt_Md_edge_1 13 rfl) ?_
                refine ev_get (v := .ref (m + 9)) (ev_dt dt_Md_edge_1 14 rfl) g_Md_35_10 hM4.1 rfl ?_
                refine ev_bipush (ev_dt dt_Md_edge_1 15 rfl) bi_10 ?_
                refine ev_iload_1 (ev_dt dt_Md_edge_1 16 rfl) ?_
                refine ev_imul (ev_dt dt_Md_edge_1 17 rfl) (nI_mul _ _) ?_
                refine ev_iload_2 (ev_dt dt_Md_edge_1 18 rfl) ?_
                refine ev_addn (ev_dt dt_Md_edge_1 19 rfl) ?_
                refine ev_aload_0 (ev_dt dt_Md_edge_1 20 rfl) ?_
                refine ev_get (v := .ref (m + 9)) (ev_dt dt_Md_edge_1 21 rfl) g_Md_35_10 hM4.1 rfl ?_
                refine ev_bipush (ev_dt dt_Md_edge_1 22 rfl) bi_10 ?_
                refine ev_iload_1 (ev_dt dt_Md_edge_1 23 rfl) ?_
                refine ev_imul (ev_dt dt_Md_edge_1 24 rfl) (nI_mul _ _) ?_
                refine ev_iload_2 (ev_dt dt_Md_edge_1 25 rfl) ?_
                refine ev_addn (ev_dt dt_Md_edge_1 26 rfl) ?_
                refine ev_iald (f := A 8) (ev_dt dt_Md_edge_1 27 rfl) hM4.a8 (by omega) (by decide) rfl ?_
                refine ev_ic1 (ev_dt dt_Md_edge_1 28 rfl) ?_
                refine ev_iload_3 (ev_dt dt_Md_edge_1 29 rfl) ?_
                refine ev_ishl (ev_dt dt_Md_edge_1 30 rfl) rfl ?_
                refine ev_ior (ev_dt dt_Md_edge_1 31 rfl) rfl ?_
                refine rf_st8 (ev_dt dt_Md_edge_1 32 rfl) hM4 (by omega) (fun h5 hM5 hf5 => ?_)
                replace hf5 := hf4.tr hf5
                refine ev_ic1 (ev_dt dt_Md_edge_1 33 rfl) ?_
                exact ev_ireturn (ev_dt dt_Md_edge_1 34 rfl) rfl bz1 (kt i b w h_i rfl hb rfl hw rfl hk5 g2' g3' (Bool.eq_false_iff.mpr (fun e => g4 ((q_tst (by omega)).mpr e))) h5 hM5 hf5)
              · refine ev_ic2 (ev_dt dt_Md_edge_1 4 rfl) ?_
                refine ev_goto (tgt := 112) (ev_dt dt_Md_edge_1 5 rfl) (by decide) ?_
                refine rf_pt0 (ev_dt dt_Md_edge_1 7 rfl) rfl hM2 (fun h6 hM6 hf6 => ?_)
                replace hf6 := hf2.tr hf6
                rw [uF_uF] at hM6
                refine ev_aload_0 (ev_dt dt_Md_edge_1 8 rfl) ?_
                refine ev_get (v := .int (nI 2)) (ev_dt dt_Md_edge_1 9 rfl) g_Md_95_10 hM6.1 rfl ?_
                refine ev_if_leF (tgt := 124) (ev_dt dt_Md_edge_1 10 rfl) (by decide) (by decide +kernel) ?_
                refine ev_ic0 (ev_dt dt_Md_edge_1 11 rfl) ?_
                exact ev_ireturn (ev_dt dt_Md_edge_1 12 rfl) rfl bz0 (k2 i b w h_i rfl hb rfl hw rfl hk5 g2' (Or.inr ((q_tst (by omega)).mp g4)) h6 hM6 hf6)
          · refine ev_ic0 (ev_dt dt_Md_edge_0 48 rfl) ?_
            exact ev_ireturn (ev_dt dt_Md_edge_0 49 rfl) rfl bz0 (kf i b w h_i rfl hb rfl hw rfl hk5 ((q_tst (by omega)).mp g2) h2 hM2 hf2)
        · refine ev_ic1 (ev_dt dt_Md_edge_0 27 rfl) ?_
          refine ev_goto (tgt := 56) (ev_dt dt_Md_edge_0 28 rfl) (by decide) ?_
          refine rf_pt0 (ev_dt dt_Md_edge_0 30 rfl) rfl hM1 (fun h7 hM7 hf7 => ?_)
          replace hf7 := hf1.tr hf7
          rw [uF_uF] at hM7
          refine ev_aload_0 (ev_dt dt_Md_edge_0 31 rfl) ?_
          refine ev_get (v := .int (nI 1)) (ev_dt dt_Md_edge_0 32 rfl) g_Md_95_10 hM7.1 rfl ?_
          refine ev_if_gtT (tgt := 85) (ev_dt dt_Md_edge_0 33 rfl) (by decide) (by decide +kernel) ?_
          refine ev_ic0 (ev_dt dt_Md_edge_0 48 rfl) ?_
          exact ev_ireturn (ev_dt dt_Md_edge_0 49 rfl) rfl bz0 (k1 (Or.inr (Or.inr (Or.inr ⟨i, h_i, rfl, fun e => g1 (by rw [e])⟩))) h7 hM7 hf7)
      · refine ev_if_neF (tgt := 27) (ev_dt dt_Md_edge_0 10 rfl) (by decide) z00 ?_
        refine ev_ic1 (ev_dt dt_Md_edge_0 11 rfl) ?_
        refine ev_goto (tgt := 28) (ev_dt dt_Md_edge_0 12 rfl) (by decide) ?_
        refine rf_pt0 (ev_dt dt_Md_edge_0 14 rfl) rfl hM (fun h8 hM8 hf8 => ?_)
        refine ev_aload_0 (ev_dt dt_Md_edge_0 15 rfl) ?_
        refine ev_get (v := .int (nI 1)) (ev_dt dt_Md_edge_0 16 rfl) g_Md_95_10 hM8.1 rfl ?_
        refine ev_if_leF (tgt := 40) (ev_dt dt_Md_edge_0 17 rfl) (by decide) (by decide +kernel) ?_
        refine ev_ic0 (ev_dt dt_Md_edge_0 18 rfl) ?_
        exact ev_ireturn (ev_dt dt_Md_edge_0 19 rfl) rfl bz0 (k1 (Or.inr (Or.inr (Or.inl hgw))) h8 hM8 hf8)
    · refine ev_if_eqT (tgt := 23) (ev_dt dt_Md_edge_0 7 rfl) (by decide) z00 ?_
      refine ev_ic1 (ev_dt dt_Md_edge_0 11 rfl) ?_
      refine ev_goto (tgt := 28) (ev_dt dt_Md_edge_0 12 rfl) (by decide) ?_
      refine rf_pt0 (ev_dt dt_Md_edge_0 14 rfl) rfl hM (fun h9 hM9 hf9 => ?_)
      refine ev_aload_0 (ev_dt dt_Md_edge_0 15 rfl) ?_
      refine ev_get (v := .int (nI 1)) (ev_dt dt_Md_edge_0 16 rfl) g_Md_95_10 hM9.1 rfl ?_
      refine ev_if_leF (tgt := 40) (ev_dt dt_Md_edge_0 17 rfl) (by decide) (by decide +kernel) ?_
      refine ev_ic0 (ev_dt dt_Md_edge_0 18 rfl) ?_
      exact ev_ireturn (ev_dt dt_Md_edge_0 19 rfl) rfl bz0 (k1 (Or.inr (Or.inl hgb)) h9 hM9 hf9)
  · replace hx : ∀ i, i < nc → x ≠ nI i := hF2 ▸ hx
    refine ev_if_eqT (tgt := 23) (ev_dt dt_Md_edge_0 4 rfl) (by decide) z00 ?_
    refine ev_ic1 (ev_dt dt_Md_edge_0 11 rfl) ?_
    refine ev_goto (tgt := 28) (ev_dt dt_Md_edge_0 12 rfl) (by decide) ?_
    refine rf_pt0 (ev_dt dt_Md_edge_0 14 rfl) rfl hM (fun h10 hM10 hf10 => ?_)
    refine ev_aload_0 (ev_dt dt_Md_edge_0 15 rfl) ?_
    refine ev_get (v := .int (nI 1)) (ev_dt dt_Md_edge_0 16 rfl) g_Md_95_10 hM10.1 rfl ?_
    refine ev_if_leF (tgt := 40) (ev_dt dt_Md_edge_0 17 rfl) (by decide) (by decide +kernel) ?_
    refine ev_ic0 (ev_dt dt_Md_edge_0 18 rfl) ?_
    exact ev_ireturn (ev_dt dt_Md_edge_0 19 rfl) rfl bz0 (k1 (Or.inl hx) h10 hM10 hf10)
end R2
