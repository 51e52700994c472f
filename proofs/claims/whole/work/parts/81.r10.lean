/-! level and top, in the reference (written by gen_r10.py over walk.py). -/
/-- the levels, by row number -/
def lvR (A : Nat → Nat → Int32) (T : Nat → Bool) (cc : Nat) (cn co : Nat → Nat) (th : Nat → Int32) (N : nod) (i R v : Nat) : Nat := if pR A T cc cn co th v = true then lz (pR A T cc cn co th) (bN N (rV A) i) R v else 0
/-- only what is said, levels and answers have changed -/
def tpA (A A' : Nat → Nat → Int32) : Prop := ∀ a, a ≠ 9 → a ≠ 18 → a ≠ 19 → A' a = A a
theorem rk_P {lv : Nat → Nat} {P : Nat → Bool} {c l i : Nat} (h : ∀ u, u < c → 1 ≤ lv u → P u = true) : rk lv c l i ≤ cnt P c := cnt_mono c (fun u hu q => h u hu (of_decide_eq_true q).1)
section R10
variable {E : ev_E} {d : Nat} {h : ev_h} {sz k n : Nat} {Q : ev_Q}
variable {m : Nat} {F : Nat → Nat} {A : Nat → Nat → Int32}
theorem r_level {x y : Int32} {nc : Nat} {N : nod} {ed : Nat → Nat → Int32} {zs : Nat → Nat} {T : Nat → Bool} {cc : Nat} {cn co : Nat → Nat} {th : Nat → Int32} (hM : Rf E m F A h) (hS : RS A nc N ed zs) (hnc : nc ≤ 24) (hF2 : F 2 = nc) (hC : RC A T 4 cc cn co th) (hok : okN N nc) (hF1 : F 1 ≤ 120) (h24 : cnt (pR A T cc cn co th) (F 1) ≤ 24) (kx : (∀ i, i < F 2 → x ≠ nI i) ∨ (∀ r, r < F 1 → T r = true → y ≠ nI r) → ∀ h', Rf E m (uF F 0 1) A h' → fR m h h' → Q (.returned (some (.int (nI 0)))) h' sz k n) (kk : ∀ i r, i < F 2 → x = nI i → r < F 1 → T r = true → y = nI r → ∀ h' A', vA A A' → Rf E m (uF F 0 0) A' h' → fR m h h' → Q (.returned (some (.int (nI (lvR A T cc cn co th N i (F 1) r))))) h' sz k n) : Ev E m_Md_level (d + 5) 0 [some (.ref m), some (.int x), some (.int y)] [] h sz k n Q := by
  refine ev_aload_0 (ev_dt dt_Md_level_0 0 rfl) ?_
  refine ev_aload_0 (ev_dt dt_Md_level_0 1 rfl) ?_
  refine ev_iload_1 (ev_dt dt_Md_level_0 2 rfl) ?_
  refine ev_callV (ev_dt dt_Md_level_0 3 rfl) v_Md_116_10 hM.1 [.int x] rfl np_Md_isNode rfl (ev_lk_of (j := 0) rfl rfl) (r_isNode hM (show F 2 ≤ 24 by omega) (fun (hx : ∃ j, j < F 2 ∧ x = nI j) => ev_r1 ?_) (fun (hx : ∀ j, j < F 2 → x ≠ nI j) => ev_r1 ?_))
  · obtain ⟨i, h_i, rfl⟩ := hx
    refine ev_if_eqF (tgt := 21) (ev_dt dt_Md_level_0 4 rfl) (by decide) z10 ?_
    refine ev_aload_0 (ev_dt dt_Md_level_0 5 rfl) ?_
    refine ev_iload_2 (ev_dt dt_Md_level_0 6 rfl) ?_
    refine ev_callV (ev_dt dt_Md_level_0 7 rfl) v_Md_109_10 hM.1 [.int y] rfl np_Md_isRow rfl (ev_lk_of (j := 0) rfl rfl) (r_isRow hC.1 hM hF1 (fun r (h_r : r < F 1) ht_r hx_r => ev_r1 ?_) (fun (hno : ∀ r, r < F 1 → T r = true → y ≠ nI r) => ev_r1 ?_))
    · subst hx_r
      refine ev_if_eqF (tgt := 21) (ev_dt dt_Md_level_0 8 rfl) (by decide) z10 ?_
      refine ev_ic0 (ev_dt dt_Md_level_0 9 rfl) ?_
      refine ev_goto (tgt := 22) (ev_dt dt_Md_level_0 10 rfl) (by decide) ?_
      refine rf_pt0 (ev_dt dt_Md_level_0 12 rfl) rfl hM (fun h1 hM1 hf1 => ?_)
      refine ev_aload_0 (ev_dt dt_Md_level_0 13 rfl) ?_
      refine ev_get (v := .int (nI 0)) (ev_dt dt_Md_level_0 14 rfl) g_Md_95_10 hM1.1 rfl ?_
      refine ev_if_leT (tgt := 34) (ev_dt dt_Md_level_0 15 rfl) (by decide) (by decide +kernel) ?_
      refine ev_aload_0 (ev_dt dt_Md_level_0 18 rfl) ?_
      refine ev_iload_1 (ev_dt dt_Md_level_0 19 rfl) ?_
      refine ev_callV (ev_dt dt_Md_level_0 20 rfl) v_Md_172_10 hM1.1 [.int (nI i)] rfl np_Md_weigh rfl (ev_lk_of (j := 4) rfl rfl) (r_weigh (d := d) hM1 hS hnc hC hF1 (by omega) (okB_N hok (by omega)) h24 (fun h8 A8 hA8 hM8 hf8 (hl8 : lev A8 (F 1) (lvR A T cc cn co th N i (F 1))) => ev_r0 ?_))
      replace hf8 := hf1.tr hf8
      refine ev_aload_0 (ev_dt dt_Md_level_0 21 rfl) ?_
      refine ev_get (v := .ref (m + 19)) (ev_dt dt_Md_level_0 22 rfl) g_Md_65_10 hM8.1 rfl ?_
      refine ev_iload_2 (ev_dt dt_Md_level_0 23 rfl) ?_
      refine ev_iald (f := A8 18) (ev_dt dt_Md_level_0 24 rfl) hM8.a18 (by omega) (by decide) rfl ?_
      rw [hl8 r h_r]
      exact ev_ireturn (ev_dt dt_Md_level_0 25 rfl) rfl rfl (kk i r h_i rfl h_r ht_r rfl h8 A8 hA8 hM8 hf8)
    · refine ev_if_eqT (tgt := 21) (ev_dt dt_Md_level_0 8 rfl) (by decide) z00 ?_
      refine ev_ic1 (ev_dt dt_Md_level_0 11 rfl) ?_
      refine rf_pt0 (ev_dt dt_Md_level_0 12 rfl) rfl hM (fun h2 hM2 hf2 => ?_)
      refine ev_aload_0 (ev_dt dt_Md_level_0 13 rfl) ?_
      refine ev_get (v := .int (nI 1)) (ev_dt dt_Md_level_0 14 rfl) g_Md_95_10 hM2.1 rfl ?_
      refine ev_if_leF (tgt := 34) (ev_dt dt_Md_level_0 15 rfl) (by decide) (by decide +kernel) ?_
      refine ev_ic0 (ev_dt dt_Md_level_0 16 rfl) ?_
      exact ev_ireturn (ev_dt dt_Md_level_0 17 rfl) rfl rfl (kx (Or.inr hno) h2 hM2 hf2)
  · refine ev_if_eqT (tgt := 21) (ev_dt dt_Md_level_0 4 rfl) (by decide) z00 ?_
    refine ev_ic1 (ev_dt dt_Md_level_0 11 rfl) ?_
    refine rf_pt0 (ev_dt dt_Md_level_0 12 rfl) rfl hM (fun h3 hM3 hf3 => ?_)
    refine ev_aload_0 (ev_dt dt_Md_level_0 13 rfl) ?_
    refine ev_get (v := .int (nI 1)) (ev_dt dt_Md_level_0 14 rfl) g_Md_95_10 hM3.1 rfl ?_
    refine ev_if_leF (tgt := 34) (ev_dt dt_Md_level_0 15 rfl) (by decide) (by decide +kernel) ?_
    refine ev_ic0 (ev_dt dt_Md_level_0 16 rfl) ?_
    exact ev_ireturn (ev_dt dt_Md_level_0 17 rfl) rfl rfl (kx (Or.inl hx) h3 hM3 hf3)
theorem r_top_in {i t : Nat} {lv : Nat → Nat} {P : Nat → Bool} (hF1 : F 1 ≤ 120) (ht : t < 2 ^ 31) (hlv : ∀ v, v < F 1 → lv v ≤ 65536) (hP : ∀ u, u < F 1 → 1 ≤ lv u → P u = true) (h24 : cnt P (F 1) ≤ 24) {g : Nat} (hg : 1 ≤ g) (hg24 : g ≤ 24) (go : ∀ A' h' c', tpA A A' → lev A' (F 1) lv → Rf E m (uF (uF F 0 0) 3 c') A' h' → fR m h h' →  c' = min t (rk lv (F 1) (g + 1) 0) → (∀ j, j < c' → ∃ u, u < F 1 ∧ 1 ≤ lv u ∧ rk lv (F 1) (lv u) u = j ∧ A' 19 j = nI u) → Ev E m_Md_top (d + 5) 110 [some (.ref m), some (.int (nI i)), some (.int (nI t)), some (.int (nI g)), none] [] h' sz k n Q) : ∀ m' j A' h' c', j + m' = F 1 → tpA A A' → lev A' (F 1) lv → Rf E m (uF (uF F 0 0) 3 c') A' h' → fR m h h' →  c' = min t (rk lv (F 1) g j) → (∀ j, j < c' → ∃ u, u < F 1 ∧ 1 ≤ lv u ∧ rk lv (F 1) (lv u) u = j ∧ A' 19 j = nI u) → Ev E m_Md_top (d + 5) 55 [some (.ref m), some (.int (nI i)), some (.int (nI t)), some (.int (nI g)), some (.int (nI j))] [] h' sz k n Q := by
    intro m'
    induction m' with
    | zero =>
      intro j A' h' c' hj hA hl hM' hf' hm hf
      have hc24 : c' ≤ 24 := by have := rk_P (l := g) (i := j) hP; omega
      refine ev_iload_4 (ev_dt dt_Md_top_0 31 rfl) ?_
      refine ev_aload_0 (ev_dt dt_Md_top_0 32 rfl) ?_
      refine ev_get (v := .int (nI (F 1))) (ev_dt dt_Md_top_0 33 rfl) g_Md_99_10 hM'.1 rfl ?_
      refine ev_icmp_geT (tgt := 110) (ev_dt dt_Md_top_0 34 rfl) (by decide) (nI_le (by omega) (by omega)) ?_
      obtain rfl : j = F 1 := by omega
      refine ev_fg_4 ?_
      exact go A' h' c' hA hl hM' hf' (by rw [rk_next]; exact hm) hf
    | succ m' ih =>
      intro j A' h' c' hj hA hl hM' hf' hm hf
      have hc24 : c' ≤ 24 := by have := rk_P (l := g) (i := j) hP; omega
      refine ev_iload_4 (ev_dt dt_Md_top_0 31 rfl) ?_
      refine ev_aload_0 (ev_dt dt_Md_top_0 32 rfl) ?_
      refine ev_get (v := .int (nI (F 1))) (ev_dt dt_Md_top_0 33 rfl) g_Md_99_10 hM'.1 rfl ?_
      refine ev_icmp_geF (tgt := 110) (ev_dt dt_Md_top_0 34 rfl) (by decide) (nI_ge (by omega) (by omega)) ?_
      refine ev_aload_0 (ev_dt dt_Md_top_0 35 rfl) ?_
      refine ev_get (v := .int (nI c')) (ev_dt dt_Md_top_0 36 rfl) g_Md_163_10 hM'.1 rfl ?_
      refine ev_iload_2 (ev_dt dt_Md_top_0 37 rfl) ?_
      refine ev_icmp_ge (tgt := 110) (ev_dt dt_Md_top_0 38 rfl) (by decide) (fun gn => ?_) (fun gn => ?_)
      · have hn' : t ≤ c' := (nI_leI (by omega) (by omega)).mp gn
        refine ev_fg_4 ?_
        exact go A' h' c' hA hl hM' hf' (by have := rk_mono (lv := lv) (c := F 1) (l := g) (i := j) (j := F 1) (by omega); rw [rk_next]; omega) hf
      · have hn' : c' < t := by rw [nI_leI (by omega) (by omega)] at gn; omega
        refine ev_aload_0 (ev_dt dt_Md_top_0 39 rfl) ?_
        refine ev_get (v := .ref (m + 19)) (ev_dt dt_Md_top_0 40 rfl) g_Md_65_10 hM'.1 rfl ?_
        refine ev_iload_4 (ev_dt dt_Md_top_0 41 rfl) ?_
        refine ev_iald (f := A' 18) (ev_dt dt_Md_top_0 42 rfl) hM'.a18 (by omega) (by decide) rfl ?_
        rw [hl j (by omega)]
        refine ev_iload_3 (ev_dt dt_Md_top_0 43 rfl) ?_
        have hlj := hlv j (by omega)
        refine ev_icmp_ne (tgt := 104) (ev_dt dt_Md_top_0 44 rfl) (by decide) (fun ge => ?_) (fun ge => ?_)
        · refine ev_inc1_4 (ev_dt dt_Md_top_0 57 rfl) (by decide) rfl ?_
          refine ev_goto (tgt := 55) (ev_dt dt_Md_top_0 58 rfl) (by decide) ?_
          have he' : lv j ≠ g := fun e => ge (by rw [e])
          exact ih (j + 1) A' h' c' (by omega) hA hl hM' hf' (by rw [rk_step (by omega) hg, if_neg he']; exact hm) hf
        · have he' : lv j = g := (nI_eq (by omega) (by omega)).mp ge
          have hc' : c' < 24 := by have := rk_P (l := g) (i := j + 1) hP; rw [rk_step (by omega) hg, if_pos he'] at this; omega
          refine ev_aload_0 (ev_dt dt_Md_top_0 45 rfl) ?_
          refine ev_get (v := .ref (m + 20)) (ev_dt dt_Md_top_0 46 rfl) g_Md_68_10 hM'.1 rfl ?_
          refine ev_aload_0 (ev_dt dt_Md_top_0 47 rfl) ?_
          refine ev_get (v := .int (nI c')) (ev_dt dt_Md_top_0 48 rfl) g_Md_163_10 hM'.1 rfl ?_
          refine ev_iload_4 (ev_dt dt_Md_top_0 49 rfl) ?_
          refine rf_st19 (ev_dt dt_Md_top_0 50 rfl) hM' (by omega) (fun h51 hM51 hf51 => ?_)
          replace hf51 := hf'.tr hf51
          refine ev_aload_0 (ev_dt dt_Md_top_0 51 rfl) ?_
          refine ev_dup (ev_dt dt_Md_top_0 52 rfl) rfl ?_
          refine ev_get (v := .int (nI c')) (ev_dt dt_Md_top_0 53 rfl) g_Md_163_10 hM51.1 rfl ?_
          refine ev_ic1 (ev_dt dt_Md_top_0 54 rfl) ?_
          refine ev_addn (ev_dt dt_Md_top_0 55 rfl) ?_
          refine rf_pt3 (ev_dt dt_Md_top_0 56 rfl) rfl hM51 (fun h52 hM52 hf52 => ?_)
          replace hf52 := hf51.tr hf52
          rw [uF_uF] at hM52
          refine ev_inc1_4 (ev_dt dt_Md_top_0 57 rfl) (by decide) rfl ?_
          refine ev_goto (tgt := 55) (ev_dt dt_Md_top_0 58 rfl) (by decide) ?_
          refine ih (j + 1) _ _ (c' + 1) (by omega) (fun a a9 a18 a19 => by rw [uA_a a19]; exact hA a a9 a18 a19) (fun v hv => by rw [uA_a (by decide)]; exact hl v hv) hM52 hf52 (by rw [rk_step (by omega) hg, if_pos he']; omega) (fun q hq => ?_)
          rw [uA_u]
          by_cases e : q = c'
          · exact ⟨j, by omega, by omega, by rw [he']; omega, by rw [e, pk_us]⟩
          · rw [pk_un e]; exact hf q (by omega)
theorem r_top_out {i t : Nat} {lv : Nat → Nat} {P : Nat → Bool} (hF1 : F 1 ≤ 120) (ht : t < 2 ^ 31) (hlv : ∀ v, v < F 1 → lv v ≤ 65536) (hP : ∀ u, u < F 1 → 1 ≤ lv u → P u = true) (h24 : cnt P (F 1) ≤ 24) (kk : ∀ h' A' c', tpA A A' → c' = min t (rk lv (F 1) 25 0) → (∀ j, j < c' → ∃ u, u < F 1 ∧ 1 ≤ lv u ∧ rk lv (F 1) (lv u) u = j ∧ A' 19 j = nI u) → Rf E m (uF (uF F 0 0) 3 c') A' h' → fR m h h' → Q (.returned (some (.int (nI c')))) h' sz k n) : ∀ m' g A' h' c', g + m' = 25 → 1 ≤ g → tpA A A' → lev A' (F 1) lv → Rf E m (uF (uF F 0 0) 3 c') A' h' → fR m h h' →  c' = min t (rk lv (F 1) g 0) → (∀ j, j < c' → ∃ u, u < F 1 ∧ 1 ≤ lv u ∧ rk lv (F 1) (lv u) u = j ∧ A' 19 j = nI u) → Ev E m_Md_top (d + 5) 46 [some (.ref m), some (.int (nI i)), some (.int (nI t)), some (.int (nI g)), none] [] h' sz k n Q := by
    intro m'
    induction m' with
    | zero =>
      intro g A' h' c' hj hg hA hl hM' hf' hm hf
      have hc24 : c' ≤ 24 := by have := rk_P (l := g) (i := 0) hP; omega
      refine ev_iload_3 (ev_dt dt_Md_top_0 26 rfl) ?_
      refine ev_bipush (ev_dt dt_Md_top_0 27 rfl) bi_24 ?_
      refine ev_icmp_gtT (tgt := 116) (ev_dt dt_Md_top_0 28 rfl) (by decide) (nI_lt (by omega) (by omega)) ?_
      refine ev_aload_0 (ev_dt dt_Md_top_1 1 rfl) ?_
      refine ev_get (v := .int (nI c')) (ev_dt dt_Md_top_1 2 rfl) g_Md_163_10 hM'.1 rfl ?_
      obtain rfl : g = 25 := by omega
      exact ev_ireturn (ev_dt dt_Md_top_1 3 rfl) rfl rfl (kk h' A' c' hA hm hf hM' hf')
    | succ m' ih =>
      intro g A' h' c' hj hg hA hl hM' hf' hm hf
      have hc24 : c' ≤ 24 := by have := rk_P (l := g) (i := 0) hP; omega
      refine ev_iload_3 (ev_dt dt_Md_top_0 26 rfl) ?_
      refine ev_bipush (ev_dt dt_Md_top_0 27 rfl) bi_24 ?_
      refine ev_icmp_gtF (tgt := 116) (ev_dt dt_Md_top_0 28 rfl) (by decide) (nI_nlt (by omega) (by omega)) ?_
      refine ev_ic0 (ev_dt dt_Md_top_0 29 rfl) ?_
      refine ev_istore_4 (ev_dt dt_Md_top_0 30 rfl) (by decide) rfl ?_
      refine r_top_in (h := h) hF1 ht hlv hP h24 hg (by omega) (fun A2 h2 c2 hA2 hl2 hM2 hf2 hm2 hg2 => ?_) (F 1) 0 A' h' c' (by omega) hA hl hM' hf' hm hf
      refine ev_inc1_3 (ev_dt dt_Md_top_0 59 rfl) (by decide) rfl ?_
      refine ev_goto (tgt := 46) (ev_dt dt_Md_top_1 0 rfl) (by decide) ?_
      exact ih (g + 1) A2 h2 c2 (by omega) (by omega) hA2 hl2 hM2 hf2 hm2 hg2
theorem r_top {x y : Int32} {nc : Nat} {N : nod} {ed : Nat → Nat → Int32} {zs : Nat → Nat} {T : Nat → Bool} {cc : Nat} {cn co : Nat → Nat} {th : Nat → Int32} (hM : Rf E m F A h) (hS : RS A nc N ed zs) (hnc : nc ≤ 24) (hF2 : F 2 = nc) (hC : RC A T 4 cc cn co th) (hok : okN N nc) (hF1 : F 1 ≤ 120) (h24 : cnt (pR A T cc cn co th) (F 1) ≤ 24) (kx : (∀ i, i < F 2 → x ≠ nI i) → ∀ h', Rf E m (uF F 0 1) A h' → fR m h h' → Q (.returned (some (.int (nI 0)))) h' sz k n) (k2 : ∀ i, i < F 2 → x = nI i → y < 0 → ∀ h', Rf E m (uF F 0 2) A h' → fR m h h' → Q (.returned (some (.int (nI 0)))) h' sz k n) (kk : ∀ i t, i < F 2 → x = nI i → t < 2 ^ 31 → y = nI t → ∀ h' A' c', tpA A A' → c' = min t (rk (lvR A T cc cn co th N i (F 1)) (F 1) 25 0) → (∀ j, j < c' → ∃ u, u < F 1 ∧ 1 ≤ (lvR A T cc cn co th N i (F 1)) u ∧ rk (lvR A T cc cn co th N i (F 1)) (F 1) ((lvR A T cc cn co th N i (F 1)) u) u = j ∧ A' 19 j = nI u) → Rf E m (uF (uF F 0 0) 3 c') A' h' → fR m h h' → Q (.returned (some (.int (nI c')))) h' sz k n) : Ev E m_Md_top (d + 5) 0 [some (.ref m), some (.int x), some (.int y), none, none] [] h sz k n Q := by
  refine ev_aload_0 (ev_dt dt_Md_top_0 0 rfl) ?_
  refine ev_aload_0 (ev_dt dt_Md_top_0 1 rfl) ?_
  refine ev_iload_1 (ev_dt dt_Md_top_0 2 rfl) ?_
  refine ev_callV (ev_dt dt_Md_top_0 3 rfl) v_Md_116_10 hM.1 [.int x] rfl np_Md_isNode rfl (ev_lk_of (j := 0) rfl rfl) (r_isNode hM (show F 2 ≤ 24 by omega) (fun (hx : ∃ j, j < F 2 ∧ x = nI j) => ev_r1 ?_) (fun (hx : ∀ j, j < F 2 → x ≠ nI j) => ev_r1 ?_))
  · obtain ⟨i, h_i, rfl⟩ := hx
    refine ev_if_neT (tgt := 13) (ev_dt dt_Md_top_0 4 rfl) (by decide) z10 ?_
    refine ev_iload_2 (ev_dt dt_Md_top_0 7 rfl) ?_
    refine ev_if_ge (tgt := 21) (ev_dt dt_Md_top_0 8 rfl) (by decide) (fun g1 => ?_) (fun g1 => ?_)
    · obtain ⟨t, ht, rfl⟩ := nI_of (Int32.not_lt.mpr g1)
      refine ev_ic0 (ev_dt dt_Md_top_0 11 rfl) ?_
      refine rf_pt0 (ev_dt dt_Md_top_0 12 rfl) rfl hM (fun h1 hM1 hf1 => ?_)
      refine ev_aload_0 (ev_dt dt_Md_top_0 13 rfl) ?_
      refine ev_get (v := .int (nI 0)) (ev_dt dt_Md_top_0 14 rfl) g_Md_95_10 hM1.1 rfl ?_
      refine ev_if_leT (tgt := 34) (ev_dt dt_Md_top_0 15 rfl) (by decide) (by decide +kernel) ?_
      refine ev_aload_0 (ev_dt dt_Md_top_0 18 rfl) ?_
      refine ev_iload_1 (ev_dt dt_Md_top_0 19 rfl) ?_
      refine ev_callV (ev_dt dt_Md_top_0 20 rfl) v_Md_172_10 hM1.1 [.int (nI i)] rfl np_Md_weigh rfl (ev_lk_of (j := 4) rfl rfl) (r_weigh (d := d) hM1 hS hnc hC hF1 (by omega) (okB_N hok (by omega)) h24 (fun h8 A8 hA8 hM8 hf8 (hl8 : lev A8 (F 1) (lvR A T cc cn co th N i (F 1))) => ev_r0 ?_))
      replace hf8 := hf1.tr hf8
      refine ev_aload_0 (ev_dt dt_Md_top_0 21 rfl) ?_
      refine ev_ic0 (ev_dt dt_Md_top_0 22 rfl) ?_
      refine rf_pt3 (ev_dt dt_Md_top_0 23 rfl) rfl hM8 (fun h2 hM2 hf2 => ?_)
      replace hf2 := hf8.tr hf2
      refine ev_ic1 (ev_dt dt_Md_top_0 24 rfl) ?_
      refine ev_istore_3 (ev_dt dt_Md_top_0 25 rfl) (by decide) rfl ?_
      refine r_top_out (h := h) (lv := (lvR A T cc cn co th N i (F 1))) (P := (pR A T cc cn co th)) hF1 ht (fun v hv => ?_) (fun u hu h1 => ?_) h24 (fun h9 A9 c9 hA9 hm9 hf9 hM9 hg9 => kk i t h_i rfl ht rfl h9 A9 c9 hA9 hm9 hf9 hM9 hg9) 24 1 _ _ 0 (by omega) (by omega) (fun a a9 a18 _ => hA8 a a9 a18) hl8 hM2 hf2 (by rw [rk_0]; omega) (fun j hj => absurd hj (Nat.not_lt_zero _))
      · unfold lvR; split; · rename_i hp; have := lz_le (okB_N (V := rV A) hok (show i < nc by omega)) hv hp; omega
        · omega
      · unfold lvR at h1; split at h1; · assumption
        · omega
    · refine ev_ic2 (ev_dt dt_Md_top_0 9 rfl) ?_
      refine ev_goto (tgt := 22) (ev_dt dt_Md_top_0 10 rfl) (by decide) ?_
      refine rf_pt0 (ev_dt dt_Md_top_0 12 rfl) rfl hM (fun h3 hM3 hf3 => ?_)
      refine ev_aload_0 (ev_dt dt_Md_top_0 13 rfl) ?_
      refine ev_get (v := .int (nI 2)) (ev_dt dt_Md_top_0 14 rfl) g_Md_95_10 hM3.1 rfl ?_
      refine ev_if_leF (tgt := 34) (ev_dt dt_Md_top_0 15 rfl) (by decide) (by decide +kernel) ?_
      refine ev_ic0 (ev_dt dt_Md_top_0 16 rfl) ?_
      exact ev_ireturn (ev_dt dt_Md_top_0 17 rfl) rfl rfl (k2 i h_i rfl (Int32.not_le.mp g1) h3 hM3 hf3)
  · refine ev_if_neF (tgt := 13) (ev_dt dt_Md_top_0 4 rfl) (by decide) z00 ?_
    refine ev_ic1 (ev_dt dt_Md_top_0 5 rfl) ?_
    refine ev_goto (tgt := 22) (ev_dt dt_Md_top_0 6 rfl) (by decide) ?_
    refine rf_pt0 (ev_dt dt_Md_top_0 12 rfl) rfl hM (fun h4 hM4 hf4 => ?_)
    refine ev_aload_0 (ev_dt dt_Md_top_0 13 rfl) ?_
    refine ev_get (v := .int (nI 1)) (ev_dt dt_Md_top_0 14 rfl) g_Md_95_10 hM4.1 rfl ?_
    refine ev_if_leF (tgt := 34) (ev_dt dt_Md_top_0 15 rfl) (by decide) (by decide +kernel) ?_
    refine ev_ic0 (ev_dt dt_Md_top_0 16 rfl) ?_
    exact ev_ireturn (ev_dt dt_Md_top_0 17 rfl) rfl rfl (kx hx h4 hM4 hf4)
end R10
