/-! reason, and questions read, in the reference (written by gen_r12.py over walk.py). -/
/-- only what is said, what is best and what was seen has changed -/
def eA (A A' : Nat → Nat → Int32) : Prop := ∀ a, a ≠ 9 → a ≠ 17 → a ≠ 16 → A' a = A a
theorem i01 {q : Int32} (h0 : ¬ q < 0) (h1 : ¬ nI 1 < q) : q = 0 ∨ q = nI 1 := by
  obtain ⟨j, hj, rfl⟩ := nI_of h0
  rw [nI_ltI (by omega) hj] at h1
  obtain rfl | rfl : j = 0 ∨ j = 1 := by omega
  · exact Or.inl nI_0
  · exact Or.inr rfl
section R12
variable {E : ev_E} {d : Nat} {h : ev_h} {sz k n : Nat} {Q : ev_Q}
variable {m : Nat} {F : Nat → Nat} {A : Nat → Nat → Int32}
theorem r_reason {x y z q : Int32} {nc : Nat} {N : nod} {ed : Nat → Nat → Int32} {zs : Nat → Nat} (hM : Rf E m F A h) (hS : RS A nc N ed zs) (hnc : nc ≤ 24) (hF2 : F 2 = nc) {T : Nat → Bool} (hT : ∀ r, r < 120 → A 0 r = b2 (T r)) (hF1 : F 1 ≤ 120) (kx : (∀ i, i < F 2 → x ≠ nI i) ∨ (∀ r, r < F 1 → T r = true → y ≠ nI r) ∨ (∀ r, r < F 1 → T r = true → z ≠ nI r) → ∀ h', Rf E m (uF F 0 1) A h' → fR m h h' → Q (.returned (some (.int (nI 0)))) h' sz k n) (kn : ∀ i u v, i < F 2 → x = nI i → u < F 1 → T u = true → y = nI u → v < F 1 → T v = true → z = nI v →  ¬ (q = 0 ∨ q = nI 1) → ∀ h' A', sA A A' → Rf E m (uF F 0 0) A' h' → fR m h h' → Q (.returned (some (.int (-1)))) h' sz k n) (kf : ∀ i u v, i < F 2 → x = nI i → u < F 1 → T u = true → y = nI u → v < F 1 → T v = true → z = nI v →  (q = 0 ∨ q = nI 1) → say N (rV A u) (rV A v) i ≠ 1 → ∀ h' A', sA A A' → Rf E m (uF F 0 0) A' h' → fR m h h' → Q (.returned (some (.int (-1)))) h' sz k n) (kt : ∀ i u v, i < F 2 → x = nI i → u < F 1 → T u = true → y = nI u → v < F 1 → T v = true → z = nI v →  (q = 0 ∨ q = nI 1) → say N (rV A u) (rV A v) i = 1 → ∀ h' A', sA A A' → Rf E m (uF F 0 0) A' h' → fR m h h' → Q (.returned (some (.int (wR q (wk N 23 (rV A u) (rV A v) i))))) h' sz k n) : Ev E m_Md_reason (d + 4) 0 [some (.ref m), some (.int x), some (.int y), some (.int z), some (.int q), none, none, none, none, none, none, none] [] h sz k n Q := by
  refine ev_aload_0 (ev_dt dt_Md_reason_0 0 rfl) ?_
  refine ev_aload_0 (ev_dt dt_Md_reason_0 1 rfl) ?_
  refine ev_iload_1 (ev_dt dt_Md_reason_0 2 rfl) ?_
  refine ev_callV (ev_dt dt_Md_reason_0 3 rfl) v_Md_116_10 hM.1 [.int x] rfl np_Md_isNode rfl (ev_lk_of (j := 0) rfl rfl) (r_isNode hM (show F 2 ≤ 24 by omega) (fun (hx : ∃ j, j < F 2 ∧ x = nI j) => ev_r1 ?_) (fun (hx : ∀ j, j < F 2 → x ≠ nI j) => ev_r1 ?_))
  · obtain ⟨i, h_i, rfl⟩ := hx
    refine ev_if_eqF (tgt := 29) (ev_dt dt_Md_reason_0 4 rfl) (by decide) z10 ?_
    refine ev_aload_0 (ev_dt dt_Md_reason_0 5 rfl) ?_
    refine ev_iload_2 (ev_dt dt_Md_reason_0 6 rfl) ?_
    refine ev_callV (ev_dt dt_Md_reason_0 7 rfl) v_Md_109_10 hM.1 [.int y] rfl np_Md_isRow rfl (ev_lk_of (j := 0) rfl rfl) (r_isRow hT hM hF1 (fun u (h_u : u < F 1) ht_u hx_u => ev_r1 ?_) (fun (hno : ∀ r, r < F 1 → T r = true → y ≠ nI r) => ev_r1 ?_))
    · subst hx_u
      refine ev_if_eqF (tgt := 29) (ev_dt dt_Md_reason_0 8 rfl) (by decide) z10 ?_
      refine ev_aload_0 (ev_dt dt_Md_reason_0 9 rfl) ?_
      refine ev_iload_3 (ev_dt dt_Md_reason_0 10 rfl) ?_
      refine ev_callV (ev_dt dt_Md_reason_0 11 rfl) v_Md_109_10 hM.1 [.int z] rfl np_Md_isRow rfl (ev_lk_of (j := 0) rfl rfl) (r_isRow hT hM hF1 (fun v (h_v : v < F 1) ht_v hx_v => ev_r1 ?_) (fun (hno : ∀ r, r < F 1 → T r = true → z ≠ nI r) => ev_r1 ?_))
      · subst hx_v
        refine ev_if_eqF (tgt := 29) (ev_dt dt_Md_reason_0 12 rfl) (by decide) z10 ?_
        refine ev_ic0 (ev_dt dt_Md_reason_0 13 rfl) ?_
        refine ev_goto (tgt := 30) (ev_dt dt_Md_reason_0 14 rfl) (by decide) ?_
        refine rf_pt0 (ev_dt dt_Md_reason_0 16 rfl) rfl hM (fun h1 hM1 hf1 => ?_)
        refine ev_aload_0 (ev_dt dt_Md_reason_0 17 rfl) ?_
        refine ev_get (v := .int (nI 0)) (ev_dt dt_Md_reason_0 18 rfl) g_Md_95_10 hM1.1 rfl ?_
        refine ev_if_leT (tgt := 42) (ev_dt dt_Md_reason_0 19 rfl) (by decide) (by decide +kernel) ?_
        refine ev_iload_4 (ev_dt dt_Md_reason_0 22 rfl) ?_
        refine ev_if_lt (tgt := 64) (ev_dt dt_Md_reason_0 23 rfl) (by decide) (fun g1 => ?_) (fun g1 => ?_)
        · refine ev_icm (ev_dt dt_Md_reason_0 34 rfl) ?_
          exact ev_ireturn (ev_dt dt_Md_reason_0 35 rfl) rfl rfl (kn i u v h_i rfl h_u ht_u rfl h_v ht_v rfl (fun e => e.elim (fun e => by rw [e] at g1; exact absurd g1 (by decide +kernel)) (fun e => by rw [e] at g1; exact absurd g1 (by decide +kernel))) h1 A sA.rf hM1 hf1)
        · refine ev_iload_4 (ev_dt dt_Md_reason_0 24 rfl) ?_
          refine ev_ic1 (ev_dt dt_Md_reason_0 25 rfl) ?_
          refine ev_icmp_gt (tgt := 64) (ev_dt dt_Md_reason_0 26 rfl) (by decide) (fun g2 => ?_) (fun g2 => ?_)
          · refine ev_icm (ev_dt dt_Md_reason_0 34 rfl) ?_
            exact ev_ireturn (ev_dt dt_Md_reason_0 35 rfl) rfl rfl (kn i u v h_i rfl h_u ht_u rfl h_v ht_v rfl (fun e => e.elim (fun e => by rw [e] at g2; exact absurd g2 (by decide +kernel)) (fun e => by rw [e] at g2; exact absurd g2 (by decide +kernel))) h1 A sA.rf hM1 hf1)
          · have hq := i01 g1 g2
            refine ev_aload_0 (ev_dt dt_Md_reason_0 27 rfl) ?_
            refine ev_iload_1 (ev_dt dt_Md_reason_0 28 rfl) ?_
            refine ev_iload_2 (ev_dt dt_Md_reason_0 29 rfl) ?_
            refine ev_iload_3 (ev_dt dt_Md_reason_0 30 rfl) ?_
            refine ev_callV (ev_dt dt_Md_reason_0 31 rfl) v_Md_152_10 hM1.1 [.int (nI i), .int (nI u), .int (nI v)] rfl np_Md_say rfl (ev_lk_of (j := 1) rfl rfl) (r_say (d := d) hM1 hS hnc (by omega) (by omega) (by omega) (fun h9 A9 hA9 hM9 hf9 => ev_r1 ?_))
            replace hf9 := hf1.tr hf9
            refine ev_ic1 (ev_dt dt_Md_reason_0 32 rfl) ?_
            refine ev_icmp_eq (tgt := 66) (ev_dt dt_Md_reason_0 33 rfl) (by decide) (fun g3 => ?_) (fun g3 => ?_)
            · refine ev_iload_1 (ev_dt dt_Md_reason_0 36 rfl) ?_
              refine ev_istore_5 (ev_dt dt_Md_reason_0 37 rfl) (by decide) rfl ?_
              refine ev_iload_2 (ev_dt dt_Md_reason_0 38 rfl) ?_
              refine ev_istore_6 (ev_dt dt_Md_reason_0 39 rfl) (by decide) rfl ?_
              refine ev_iload_3 (ev_dt dt_Md_reason_0 40 rfl) ?_
              refine ev_istore_7 (ev_dt dt_Md_reason_0 41 rfl) (by decide) rfl ?_
              refine ev_ic1 (ev_dt dt_Md_reason_0 42 rfl) ?_
              refine ev_istore_8 (ev_dt dt_Md_reason_0 43 rfl) (by decide) rfl ?_
              refine ev_fg_1 (ev_fg_2 (ev_fg_3 ?_))
              exact r_walk (h := h) hS hnc hq 23 i 0 u v A9 h9 (by omega) (by omega) (by omega) (by omega) (by omega) hA9 hM9 hf9 (fun h' A' a b c => by rw [Nat.zero_add]; exact kt i u v h_i rfl h_u ht_u rfl h_v ht_v rfl hq (nv.mp g3) h' A' a b c)
            · refine ev_icm (ev_dt dt_Md_reason_0 34 rfl) ?_
              exact ev_ireturn (ev_dt dt_Md_reason_0 35 rfl) rfl rfl (kf i u v h_i rfl h_u ht_u rfl h_v ht_v rfl hq (fun e => g3 (by rw [e]; rfl)) h9 A9 hA9 hM9 hf9)
      · refine ev_if_eqT (tgt := 29) (ev_dt dt_Md_reason_0 12 rfl) (by decide) z00 ?_
        refine ev_ic1 (ev_dt dt_Md_reason_0 15 rfl) ?_
        refine rf_pt0 (ev_dt dt_Md_reason_0 16 rfl) rfl hM (fun h2 hM2 hf2 => ?_)
        refine ev_aload_0 (ev_dt dt_Md_reason_0 17 rfl) ?_
        refine ev_get (v := .int (nI 1)) (ev_dt dt_Md_reason_0 18 rfl) g_Md_95_10 hM2.1 rfl ?_
        refine ev_if_leF (tgt := 42) (ev_dt dt_Md_reason_0 19 rfl) (by decide) (by decide +kernel) ?_
        refine ev_ic0 (ev_dt dt_Md_reason_0 20 rfl) ?_
        exact ev_ireturn (ev_dt dt_Md_reason_0 21 rfl) rfl rfl (kx (Or.inr (Or.inr hno)) h2 hM2 hf2)
    · refine ev_if_eqT (tgt := 29) (ev_dt dt_Md_reason_0 8 rfl) (by decide) z00 ?_
      refine ev_ic1 (ev_dt dt_Md_reason_0 15 rfl) ?_
      refine rf_pt0 (ev_dt dt_Md_reason_0 16 rfl) rfl hM (fun h3 hM3 hf3 => ?_)
      refine ev_aload_0 (ev_dt dt_Md_reason_0 17 rfl) ?_
      refine ev_get (v := .int (nI 1)) (ev_dt dt_Md_reason_0 18 rfl) g_Md_95_10 hM3.1 rfl ?_
      refine ev_if_leF (tgt := 42) (ev_dt dt_Md_reason_0 19 rfl) (by decide) (by decide +kernel) ?_
      refine ev_ic0 (ev_dt dt_Md_reason_0 20 rfl) ?_
      exact ev_ireturn (ev_dt dt_Md_reason_0 21 rfl) rfl rfl (kx (Or.inr (Or.inl hno)) h3 hM3 hf3)
  · refine ev_if_eqT (tgt := 29) (ev_dt dt_Md_reason_0 4 rfl) (by decide) z00 ?_
    refine ev_ic1 (ev_dt dt_Md_reason_0 15 rfl) ?_
    refine rf_pt0 (ev_dt dt_Md_reason_0 16 rfl) rfl hM (fun h4 hM4 hf4 => ?_)
    refine ev_aload_0 (ev_dt dt_Md_reason_0 17 rfl) ?_
    refine ev_get (v := .int (nI 1)) (ev_dt dt_Md_reason_0 18 rfl) g_Md_95_10 hM4.1 rfl ?_
    refine ev_if_leF (tgt := 42) (ev_dt dt_Md_reason_0 19 rfl) (by decide) (by decide +kernel) ?_
    refine ev_ic0 (ev_dt dt_Md_reason_0 20 rfl) ?_
    exact ev_ireturn (ev_dt dt_Md_reason_0 21 rfl) rfl rfl (kx (Or.inl hx) h4 hM4 hf4)
theorem r_readNow {i : Nat} {nc : Nat} {N : nod} {ed : Nat → Nat → Int32} {zs : Nat → Nat} {T : Nat → Bool} {s cc : Nat} {cn co : Nat → Nat} {th : Nat → Int32} (hM : Rf E m F A h) (hS : RS A nc N ed zs) (hnc : nc ≤ 24) (hC : RC A T s cc cn co th) (hs4 : s < 4) (hqi : A 15 s = nI i) (hF1 : F 1 ≤ 120) (hi : i < nc) (kk : ∀ h' A', eA A A' → (∀ v, v < 120 → A' 16 (120 * s + v) = b2 (decide (v < F 1) && ub (F 1) (pR A T cc cn co th) (bN N (rV A) i) v)) → (∀ z, z < 120 * s ∨ 120 * s + 120 ≤ z → A' 16 z = A 16 z) → Rf E m F A' h' → fR m h h' → Q (.returned (some (.int (nI (cnt (ub (F 1) (pR A T cc cn co th) (bN N (rV A) i)) (F 1)))))) h' sz k n) : Ev E m_Md_readNow (d + 5) 0 [some (.ref m), some (.int (nI s)), none, none] [] h sz k n Q := by
  have loop : ∀ m' r A' h', r + m' = 120 → eA A A' → (∀ w, w < F 1 → A' 17 w = b2 (ub (F 1) (pR A T cc cn co th) (bN N (rV A) i) w)) → (∀ v, v < r → A' 16 (120 * s + v) = b2 (decide (v < F 1) && ub (F 1) (pR A T cc cn co th) (bN N (rV A) i) v)) → (∀ z, z < 120 * s ∨ 120 * s + 120 ≤ z → A' 16 z = A 16 z) → Rf E m F A' h' → fR m h h' → Ev E m_Md_readNow (d + 5) 15 [some (.ref m), some (.int (nI s)), some (.int (nI (cnt (ub (F 1) (pR A T cc cn co th) (bN N (rV A) i)) (F 1)))), some (.int (nI r))] [] h' sz k n Q := by
    intro m'
    induction m' with
    | zero =>
      intro r A' h' hj hA hB hI hO hM' hf'
      refine ev_iload_3 (ev_dt dt_Md_readNow_0 11 rfl) ?_
      refine ev_bipush (ev_dt dt_Md_readNow_0 12 rfl) bi_120 ?_
      refine ev_icmp_geT (tgt := 60) (ev_dt dt_Md_readNow_0 13 rfl) (by decide) (nI_le (by omega) (by omega)) ?_
      refine ev_iload_2 (ev_dt dt_Md_readNow_0 36 rfl) ?_
      obtain rfl : r = 120 := by omega
      exact ev_ireturn (ev_dt dt_Md_readNow_0 37 rfl) rfl rfl (kk h' A' hA hI hO hM' hf')
    | succ m' ih =>
      intro r A' h' hj hA hB hI hO hM' hf'
      refine ev_iload_3 (ev_dt dt_Md_readNow_0 11 rfl) ?_
      refine ev_bipush (ev_dt dt_Md_readNow_0 12 rfl) bi_120 ?_
      refine ev_icmp_geF (tgt := 60) (ev_dt dt_Md_readNow_0 13 rfl) (by decide) (nI_ge (by omega) (by omega)) ?_
      refine ev_aload_0 (ev_dt dt_Md_readNow_0 14 rfl) ?_
      refine ev_get (v := .ref (m + 17)) (ev_dt dt_Md_readNow_0 15 rfl) g_Md_59_10 hM'.1 rfl ?_
      refine ev_bipush (ev_dt dt_Md_readNow_0 16 rfl) bi_120 ?_
      refine ev_iload_1 (ev_dt dt_Md_readNow_0 17 rfl) ?_
      refine ev_imul (ev_dt dt_Md_readNow_0 18 rfl) (nI_mul _ _) ?_
      refine ev_iload_3 (ev_dt dt_Md_readNow_0 19 rfl) ?_
      refine ev_addn (ev_dt dt_Md_readNow_0 20 rfl) ?_
      refine ev_iload_3 (ev_dt dt_Md_readNow_0 21 rfl) ?_
      refine ev_aload_0 (ev_dt dt_Md_readNow_0 22 rfl) ?_
      refine ev_get (v := .int (nI (F 1))) (ev_dt dt_Md_readNow_0 23 rfl) g_Md_99_10 hM'.1 rfl ?_
      refine ev_icmp_ge (tgt := 52) (ev_dt dt_Md_readNow_0 24 rfl) (by decide) (fun g1 => ?_) (fun g1 => ?_)
      · refine ev_ic0 (ev_dt dt_Md_readNow_0 32 rfl) ?_
        refine rf_st16 (ev_dt dt_Md_readNow_0 33 rfl) hM' (by omega) bz0 (fun h51 hM51 hf51 => ?_)
        replace hf51 := hf'.tr hf51
        refine ev_inc1_3 (ev_dt dt_Md_readNow_0 34 rfl) (by decide) rfl ?_
        refine ev_goto (tgt := 15) (ev_dt dt_Md_readNow_0 35 rfl) (by decide) ?_
        refine ih (r + 1) _ _ (by omega) (fun a a9 a17 a16 => by rw [uA_a a16]; exact hA a a9 a17 a16) (fun v hv => by rw [uA_a (by decide)]; exact hB v hv) (fun v hv => ?_) (fun z hz => by rw [uA_u, pk_un (by omega)]; exact hO z hz) hM51 hf51
        rw [uA_u]
        by_cases e : v = r
        · subst e; rw [pk_us, decide_eq_false (p := v < F 1) (fun e => absurd g1 (Int32.not_le.mpr (nI_lt e (by omega)))), Bool.false_and]; rfl
        · rw [pk_un (by omega)]; exact hI v (by omega)
      · have g1' : r < F 1 := (nI_ltI (by omega) (by omega)).mp (Int32.not_le.mp g1)
        refine ev_aload_0 (ev_dt dt_Md_readNow_0 25 rfl) ?_
        refine ev_get (v := .ref (m + 18)) (ev_dt dt_Md_readNow_0 26 rfl) g_Md_62_10 hM'.1 rfl ?_
        refine ev_iload_3 (ev_dt dt_Md_readNow_0 27 rfl) ?_
        refine ev_zald (f := A' 17) (ev_dt dt_Md_readNow_0 28 rfl) hM'.a17 (by omega) (by decide) rfl ?_
        rw [hB r g1']
        refine ev_if_eq (tgt := 52) (ev_dt dt_Md_readNow_0 29 rfl) (by decide) (fun g2 => ?_) (fun g2 => ?_)
        · refine ev_ic0 (ev_dt dt_Md_readNow_0 32 rfl) ?_
          refine rf_st16 (ev_dt dt_Md_readNow_0 33 rfl) hM' (by omega) bz0 (fun h52 hM52 hf52 => ?_)
          replace hf52 := hf'.tr hf52
          refine ev_inc1_3 (ev_dt dt_Md_readNow_0 34 rfl) (by decide) rfl ?_
          refine ev_goto (tgt := 15) (ev_dt dt_Md_readNow_0 35 rfl) (by decide) ?_
          refine ih (r + 1) _ _ (by omega) (fun a a9 a17 a16 => by rw [uA_a a16]; exact hA a a9 a17 a16) (fun v hv => by rw [uA_a (by decide)]; exact hB v hv) (fun v hv => ?_) (fun z hz => by rw [uA_u, pk_un (by omega)]; exact hO z hz) hM52 hf52
          rw [uA_u]
          by_cases e : v = r
          · subst e; rw [pk_us, decide_eq_true (p := v < F 1) g1', Bool.true_and, b2_0.mp g2]; rfl
          · rw [pk_un (by omega)]; exact hI v (by omega)
        · refine ev_ic1 (ev_dt dt_Md_readNow_0 30 rfl) ?_
          refine ev_goto (tgt := 53) (ev_dt dt_Md_readNow_0 31 rfl) (by decide) ?_
          refine rf_st16 (ev_dt dt_Md_readNow_0 33 rfl) hM' (by omega) bz1 (fun h53 hM53 hf53 => ?_)
          replace hf53 := hf'.tr hf53
          refine ev_inc1_3 (ev_dt dt_Md_readNow_0 34 rfl) (by decide) rfl ?_
          refine ev_goto (tgt := 15) (ev_dt dt_Md_readNow_0 35 rfl) (by decide) ?_
          refine ih (r + 1) _ _ (by omega) (fun a a9 a17 a16 => by rw [uA_a a16]; exact hA a a9 a17 a16) (fun v hv => by rw [uA_a (by decide)]; exact hB v hv) (fun v hv => ?_) (fun z hz => by rw [uA_u, pk_un (by omega)]; exact hO z hz) hM53 hf53
          rw [uA_u]
          by_cases e : v = r
          · subst e; rw [pk_us, decide_eq_true (p := v < F 1) g1', Bool.true_and, b2_1 g2]; rfl
          · rw [pk_un (by omega)]; exact hI v (by omega)
  refine ev_aload_0 (ev_dt dt_Md_readNow_0 0 rfl) ?_
  refine ev_aload_0 (ev_dt dt_Md_readNow_0 1 rfl) ?_
  refine ev_get (v := .ref (m + 16)) (ev_dt dt_Md_readNow_0 2 rfl) g_Md_56_10 hM.1 rfl ?_
  refine ev_iload_1 (ev_dt dt_Md_readNow_0 3 rfl) ?_
  refine ev_iald (f := A 15) (ev_dt dt_Md_readNow_0 4 rfl) hM.a15 (by omega) (by decide) rfl ?_
  rw [hqi]
  refine ev_iload_1 (ev_dt dt_Md_readNow_0 5 rfl) ?_
  refine ev_ic4 (ev_dt dt_Md_readNow_0 6 rfl) ?_
  refine ev_callV (ev_dt dt_Md_readNow_0 7 rfl) v_Md_166_10 hM.1 [.int (nI i), .int (nI s), .int (nI 4)] rfl np_Md_mark rfl (ev_lk_of (j := 4) rfl rfl) (r_mark (d := d) (b := 4) hM hS hnc hC hF1 hi (by omega) (fun h8 A8 hA8 hM8 hf8 hW8 => ev_r1 ?_))
  rw [kB_N] at hW8 ⊢
  refine ev_istore_2 (ev_dt dt_Md_readNow_0 8 rfl) (by decide) rfl ?_
  refine ev_ic0 (ev_dt dt_Md_readNow_0 9 rfl) ?_
  refine ev_istore_3 (ev_dt dt_Md_readNow_0 10 rfl) (by decide) rfl ?_
  exact loop 120 0 A8 h8 (by omega) (fun a a9 a17 _ => hA8 a a9 a17) hW8 (fun v hv => absurd hv (Nat.not_lt_zero _)) (fun z hz => by rw [hA8 16 (by decide) (by decide)]) hM8 hf8
end R12
