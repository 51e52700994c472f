/-! best and grouped, in the reference (written by gen_r8.py over walk.py). -/
theorem cnt_st {S : Nat → Bool} {r R : Nat} (hr : r < R) (hS : S r = true) : cnt S r + 1 ≤ cnt S R := cnt_in hr hS
/-- only answers have changed -/
def aA (A A' : Nat → Nat → Int32) : Prop := ∀ a, a ≠ 19 → A' a = A a
/-- only what is said, what is best and answers have changed -/
def nA' (A A' : Nat → Nat → Int32) : Prop := ∀ a, a ≠ 9 → a ≠ 17 → a ≠ 19 → A' a = A a
section R8
variable {E : ev_E} {d : Nat} {h : ev_h} {sz k n : Nat} {Q : ev_Q}
variable {m : Nat} {F : Nat → Nat} {A : Nat → Nat → Int32}
theorem r_answerBest {S : Nat → Bool} (hM : Rf E m F A h) (hF1 : F 1 ≤ 120) (hS : ∀ r, r < F 1 → A 17 r = b2 (S r)) (h24 : cnt S (F 1) ≤ 24) (kk : ∀ h' A', aA A A' → (∀ r, r < F 1 → S r = true → A' 19 (cnt S r) = nI r) → Rf E m (uF F 3 (cnt S (F 1))) A' h' → fR m h h' → Q (.returned (some (.int (nI (cnt S (F 1)))))) h' sz k n) : Ev E m_Md_answerBest d 0 [some (.ref m), none] [] h sz k n Q := by
  have loop : ∀ m' r A' h', r + m' = F 1 → aA A A' → (∀ v, v < r → S v = true → A' 19 (cnt S v) = nI v) → Rf E m (uF F 3 (cnt S r)) A' h' → fR m h h' → Ev E m_Md_answerBest d 7 [some (.ref m), some (.int (nI r))] [] h' sz k n Q := by
    intro m'
    induction m' with
    | zero =>
      intro r A' h' hj hA hI hM' hf'
      refine ev_iload_1 (ev_dt dt_Md_answerBest_0 5 rfl) ?_
      refine ev_aload_0 (ev_dt dt_Md_answerBest_0 6 rfl) ?_
      refine ev_get (v := .int (nI (F 1))) (ev_dt dt_Md_answerBest_0 7 rfl) g_Md_99_10 hM'.1 rfl ?_
      refine ev_icmp_geT (tgt := 50) (ev_dt dt_Md_answerBest_0 8 rfl) (by decide) (nI_le (by omega) (by omega)) ?_
      obtain rfl : r = F 1 := by omega
      refine ev_aload_0 (ev_dt dt_Md_answerBest_0 28 rfl) ?_
      refine ev_get (v := .int (nI (cnt S (F 1)))) (ev_dt dt_Md_answerBest_0 29 rfl) g_Md_163_10 hM'.1 rfl ?_
      exact ev_ireturn (ev_dt dt_Md_answerBest_0 30 rfl) rfl rfl (kk h' A' hA hI hM' hf')
    | succ m' ih =>
      intro r A' h' hj hA hI hM' hf'
      refine ev_iload_1 (ev_dt dt_Md_answerBest_0 5 rfl) ?_
      refine ev_aload_0 (ev_dt dt_Md_answerBest_0 6 rfl) ?_
      refine ev_get (v := .int (nI (F 1))) (ev_dt dt_Md_answerBest_0 7 rfl) g_Md_99_10 hM'.1 rfl ?_
      refine ev_icmp_geF (tgt := 50) (ev_dt dt_Md_answerBest_0 8 rfl) (by decide) (nI_ge (by omega) (by omega)) ?_
      refine ev_aload_0 (ev_dt dt_Md_answerBest_0 9 rfl) ?_
      refine ev_get (v := .ref (m + 18)) (ev_dt dt_Md_answerBest_0 10 rfl) g_Md_62_10 hM'.1 rfl ?_
      refine ev_iload_1 (ev_dt dt_Md_answerBest_0 11 rfl) ?_
      refine ev_zald (f := A' 17) (ev_dt dt_Md_answerBest_0 12 rfl) hM'.a17 (by omega) (by decide) rfl ?_
      rw [hA 17 (by decide), hS r (by omega)]
      refine ev_if_eq (tgt := 44) (ev_dt dt_Md_answerBest_0 13 rfl) (by decide) (fun g1 => ?_) (fun g1 => ?_)
      · refine ev_inc1_1 (ev_dt dt_Md_answerBest_0 26 rfl) (by decide) rfl ?_
        refine ev_goto (tgt := 7) (ev_dt dt_Md_answerBest_0 27 rfl) (by decide) ?_
        have e : cnt S (r + 1) = cnt S r := by rw [cnt, b2_0.mp g1]; simp
        rw [← e] at hM'
        exact ih (r + 1) A' h' (by omega) hA (fun v hv hSv => hI v (by
          have : v ≠ r := fun q => by rw [q, b2_0.mp g1] at hSv; cases hSv
          omega) hSv) hM' hf'
      · have g1' := b2_1 g1
        have hcs := cnt_st (R := F 1) (by omega) g1'
        refine ev_aload_0 (ev_dt dt_Md_answerBest_0 14 rfl) ?_
        refine ev_get (v := .ref (m + 20)) (ev_dt dt_Md_answerBest_0 15 rfl) g_Md_68_10 hM'.1 rfl ?_
        refine ev_aload_0 (ev_dt dt_Md_answerBest_0 16 rfl) ?_
        refine ev_get (v := .int (nI (cnt S r))) (ev_dt dt_Md_answerBest_0 17 rfl) g_Md_163_10 hM'.1 rfl ?_
        refine ev_iload_1 (ev_dt dt_Md_answerBest_0 18 rfl) ?_
        refine rf_st19 (ev_dt dt_Md_answerBest_0 19 rfl) hM' (by omega) (fun h51 hM51 hf51 => ?_)
        replace hf51 := hf'.tr hf51
        refine ev_aload_0 (ev_dt dt_Md_answerBest_0 20 rfl) ?_
        refine ev_dup (ev_dt dt_Md_answerBest_0 21 rfl) rfl ?_
        refine ev_get (v := .int (nI (cnt S r))) (ev_dt dt_Md_answerBest_0 22 rfl) g_Md_163_10 hM51.1 rfl ?_
        refine ev_ic1 (ev_dt dt_Md_answerBest_0 23 rfl) ?_
        refine ev_addn (ev_dt dt_Md_answerBest_0 24 rfl) ?_
        refine rf_pt3 (ev_dt dt_Md_answerBest_0 25 rfl) rfl hM51 (fun h52 hM52 hf52 => ?_)
        replace hf52 := hf51.tr hf52
        have e : cnt S (r + 1) = cnt S r + 1 := by rw [cnt, g1']; simp
        rw [uF_uF, ← e] at hM52
        refine ev_inc1_1 (ev_dt dt_Md_answerBest_0 26 rfl) (by decide) rfl ?_
        refine ev_goto (tgt := 7) (ev_dt dt_Md_answerBest_0 27 rfl) (by decide) ?_
        refine ih (r + 1) _ _ (by omega) (fun a ha => by rw [uA_a ha]; exact hA a ha) (fun v hv hSv => ?_) hM52 hf52
        rw [uA_u]
        by_cases e2 : v = r
        · subst e2; exact pk_us
        · have := cnt_st (R := r) (by omega) hSv
          rw [pk_un (by omega)]; exact hI v (by omega) hSv
  refine ev_aload_0 (ev_dt dt_Md_answerBest_0 0 rfl) ?_
  refine ev_ic0 (ev_dt dt_Md_answerBest_0 1 rfl) ?_
  refine rf_pt3 (ev_dt dt_Md_answerBest_0 2 rfl) rfl hM (fun h1 hM1 hf1 => ?_)
  refine ev_ic0 (ev_dt dt_Md_answerBest_0 3 rfl) ?_
  refine ev_istore_1 (ev_dt dt_Md_answerBest_0 4 rfl) (by decide) rfl ?_
  exact loop (F 1) 0 A h1 (by omega) (fun _ _ => rfl) (fun v hv => absurd hv (Nat.not_lt_zero _)) hM1 hf1
theorem ub_T {R : Nat} {P : Nat → Bool} {B : Nat → Nat → Bool} {r : Nat} (h : ub R P B r = true) : P r = true := by
  unfold ub at h
  rw [Bool.and_eq_true] at h
  exact h.1
theorem pR_T {T : Nat → Bool} {cc : Nat} {cn co : Nat → Nat} {th : Nat → Int32} {r : Nat} (h : pR A T cc cn co th r = true) : T r = true := by
  unfold pR at h
  rw [Bool.and_eq_true] at h
  exact h.1
theorem r_best {x : Int32} {nc : Nat} {N : nod} {ed : Nat → Nat → Int32} {zs : Nat → Nat} {T : Nat → Bool} {cc : Nat} {cn co : Nat → Nat} {th : Nat → Int32} (hM : Rf E m F A h) (hS : RS A nc N ed zs) (hnc : nc ≤ 24) (hF2 : F 2 = nc) (hC : RC A T 4 cc cn co th) (hF1 : F 1 ≤ 120) (h24 : cnt (pR A T cc cn co th) (F 1) ≤ 24) (kx : (∀ i, i < F 2 → x ≠ nI i) → ∀ h', Rf E m (uF F 0 1) A h' → fR m h h' → Q (.returned (some (.int (nI 0)))) h' sz k n) (kk : ∀ i, i < F 2 → x = nI i → ∀ h' A', nA' A A' → (∀ r, r < F 1 → ub (F 1) (pR A T cc cn co th) (bN N (rV A) i) r = true → A' 19 (cnt (ub (F 1) (pR A T cc cn co th) (bN N (rV A) i)) r) = nI r) → Rf E m (uF (uF F 0 0) 3 (cnt (ub (F 1) (pR A T cc cn co th) (bN N (rV A) i)) (F 1))) A' h' → fR m h h' → Q (.returned (some (.int (nI (cnt (ub (F 1) (pR A T cc cn co th) (bN N (rV A) i)) (F 1)))))) h' sz k n) : Ev E m_Md_best (d + 5) 0 [some (.ref m), some (.int x), none] [] h sz k n Q := by
  refine ev_aload_0 (ev_dt dt_Md_best_0 0 rfl) ?_
  refine ev_aload_0 (ev_dt dt_Md_best_0 1 rfl) ?_
  refine ev_iload_1 (ev_dt dt_Md_best_0 2 rfl) ?_
  refine ev_callV (ev_dt dt_Md_best_0 3 rfl) v_Md_116_10 hM.1 [.int x] rfl np_Md_isNode rfl (ev_lk_of (j := 0) rfl rfl) (r_isNode hM (show F 2 ≤ 24 by omega) (fun (hx : ∃ j, j < F 2 ∧ x = nI j) => ev_r1 ?_) (fun (hx : ∀ j, j < F 2 → x ≠ nI j) => ev_r1 ?_))
  · obtain ⟨i, h_i, rfl⟩ := hx
    refine ev_if_eqF (tgt := 13) (ev_dt dt_Md_best_0 4 rfl) (by decide) z10 ?_
    refine ev_ic0 (ev_dt dt_Md_best_0 5 rfl) ?_
    refine ev_goto (tgt := 14) (ev_dt dt_Md_best_0 6 rfl) (by decide) ?_
    refine rf_pt0 (ev_dt dt_Md_best_0 8 rfl) rfl hM (fun h1 hM1 hf1 => ?_)
    refine ev_aload_0 (ev_dt dt_Md_best_0 9 rfl) ?_
    refine ev_get (v := .int (nI 0)) (ev_dt dt_Md_best_0 10 rfl) g_Md_95_10 hM1.1 rfl ?_
    refine ev_if_leT (tgt := 26) (ev_dt dt_Md_best_0 11 rfl) (by decide) (by decide +kernel) ?_
    refine ev_aload_0 (ev_dt dt_Md_best_0 14 rfl) ?_
    refine ev_iload_1 (ev_dt dt_Md_best_0 15 rfl) ?_
    refine ev_ic4 (ev_dt dt_Md_best_0 16 rfl) ?_
    refine ev_ic4 (ev_dt dt_Md_best_0 17 rfl) ?_
    refine ev_callV (ev_dt dt_Md_best_0 18 rfl) v_Md_166_10 hM1.1 [.int (nI i), .int (nI 4), .int (nI 4)] rfl np_Md_mark rfl (ev_lk_of (j := 4) rfl rfl) (r_mark (d := d) (b := 4) hM1 hS hnc hC hF1 (by omega) (by omega) (fun h8 A8 hA8 hM8 hf8 hW8 => ev_r1 ?_))
    replace hf8 := hf1.tr hf8
    refine ev_istore_2 (ev_dt dt_Md_best_0 19 rfl) (by decide) rfl ?_
    refine ev_aload_0 (ev_dt dt_Md_best_0 20 rfl) ?_
    have hcn : cnt (ub (F 1) (pR A T cc cn co th) (kB N (rV A) i 4)) (F 1) ≤ 24 := Nat.le_trans (cnt_mono _ (fun r _ h => ub_T h)) h24
    refine ev_callV (ev_dt dt_Md_best_0 21 rfl) v_Md_169_10 hM8.1 [] rfl np_Md_answerBest rfl (ev_lk_of (j := 1) rfl rfl) (r_answerBest (S := ub (F 1) (pR A T cc cn co th) (kB N (rV A) i 4)) hM8 hF1 hW8 hcn (fun h9 A9 hA9 hI9 hM9 hf9 => ev_r1 ?_))
    replace hf9 := hf8.tr hf9
    rw [kB_N] at hI9 hM9 ⊢
    exact ev_ireturn (ev_dt dt_Md_best_0 22 rfl) rfl rfl (kk i h_i rfl h9 A9 (fun a a9 a17 a19 => (hA9 a a19).trans (hA8 a a9 a17)) hI9 hM9 hf9)
  · refine ev_if_eqT (tgt := 13) (ev_dt dt_Md_best_0 4 rfl) (by decide) z00 ?_
    refine ev_ic1 (ev_dt dt_Md_best_0 7 rfl) ?_
    refine rf_pt0 (ev_dt dt_Md_best_0 8 rfl) rfl hM (fun h2 hM2 hf2 => ?_)
    refine ev_aload_0 (ev_dt dt_Md_best_0 9 rfl) ?_
    refine ev_get (v := .int (nI 1)) (ev_dt dt_Md_best_0 10 rfl) g_Md_95_10 hM2.1 rfl ?_
    refine ev_if_leF (tgt := 26) (ev_dt dt_Md_best_0 11 rfl) (by decide) (by decide +kernel) ?_
    refine ev_ic0 (ev_dt dt_Md_best_0 12 rfl) ?_
    exact ev_ireturn (ev_dt dt_Md_best_0 13 rfl) rfl rfl (kx hx h2 hM2 hf2)
theorem r_grouped {x y : Int32} {nc : Nat} {N : nod} {ed : Nat → Nat → Int32} {zs : Nat → Nat} {T : Nat → Bool} {cc : Nat} {cn co : Nat → Nat} {th : Nat → Int32} (hM : Rf E m F A h) (hS : RS A nc N ed zs) (hnc : nc ≤ 24) (hF2 : F 2 = nc) (hC : RC A T 4 cc cn co th) (hF1 : F 1 ≤ 120) (h24 : cnt (pR A T cc cn co th) (F 1) ≤ 24) (kx : (∀ i, i < F 2 → x ≠ nI i) ∨ (∀ l, l < 4 → y ≠ nI l) → ∀ h', Rf E m (uF F 0 1) A h' → fR m h h' → Q (.returned (some (.int (nI 0)))) h' sz k n) (kk : ∀ i l, i < F 2 → x = nI i → l < 4 → y = nI l → ∀ h' A', nA' A A' → (∀ r, r < F 1 → ub (F 1) (pR A T cc cn co th) (bG N (rV A) i l) r = true → A' 19 (cnt (ub (F 1) (pR A T cc cn co th) (bG N (rV A) i l)) r) = nI r) → Rf E m (uF (uF F 0 0) 3 (cnt (ub (F 1) (pR A T cc cn co th) (bG N (rV A) i l)) (F 1))) A' h' → fR m h h' → Q (.returned (some (.int (nI (cnt (ub (F 1) (pR A T cc cn co th) (bG N (rV A) i l)) (F 1)))))) h' sz k n) : Ev E m_Md_grouped (d + 5) 0 [some (.ref m), some (.int x), some (.int y), none] [] h sz k n Q := by
  refine ev_aload_0 (ev_dt dt_Md_grouped_0 0 rfl) ?_
  refine ev_aload_0 (ev_dt dt_Md_grouped_0 1 rfl) ?_
  refine ev_iload_1 (ev_dt dt_Md_grouped_0 2 rfl) ?_
  refine ev_callV (ev_dt dt_Md_grouped_0 3 rfl) v_Md_116_10 hM.1 [.int x] rfl np_Md_isNode rfl (ev_lk_of (j := 0) rfl rfl) (r_isNode hM (show F 2 ≤ 24 by omega) (fun (hx : ∃ j, j < F 2 ∧ x = nI j) => ev_r1 ?_) (fun (hx : ∀ j, j < F 2 → x ≠ nI j) => ev_r1 ?_))
  · obtain ⟨i, h_i, rfl⟩ := hx
    refine ev_if_eqF (tgt := 20) (ev_dt dt_Md_grouped_0 4 rfl) (by decide) z10 ?_
    refine ev_iload_2 (ev_dt dt_Md_grouped_0 5 rfl) ?_
    refine ev_callS (ev_dt dt_Md_grouped_0 6 rfl) s_Md_113 [.int y] rfl np_Md_isColumn rfl (ev_lk_of (j := 0) rfl rfl) (r_isColumn (fun hcol => ev_r1 ?_) (fun hcol => ev_r1 ?_))
    · obtain ⟨l, hl, rfl⟩ := hcol
      refine ev_if_eqF (tgt := 20) (ev_dt dt_Md_grouped_0 7 rfl) (by decide) z10 ?_
      refine ev_ic0 (ev_dt dt_Md_grouped_0 8 rfl) ?_
      refine ev_goto (tgt := 21) (ev_dt dt_Md_grouped_0 9 rfl) (by decide) ?_
      refine rf_pt0 (ev_dt dt_Md_grouped_0 11 rfl) rfl hM (fun h1 hM1 hf1 => ?_)
      refine ev_aload_0 (ev_dt dt_Md_grouped_0 12 rfl) ?_
      refine ev_get (v := .int (nI 0)) (ev_dt dt_Md_grouped_0 13 rfl) g_Md_95_10 hM1.1 rfl ?_
      refine ev_if_leT (tgt := 33) (ev_dt dt_Md_grouped_0 14 rfl) (by decide) (by decide +kernel) ?_
      refine ev_aload_0 (ev_dt dt_Md_grouped_0 17 rfl) ?_
      refine ev_iload_1 (ev_dt dt_Md_grouped_0 18 rfl) ?_
      refine ev_ic4 (ev_dt dt_Md_grouped_0 19 rfl) ?_
      refine ev_iload_2 (ev_dt dt_Md_grouped_0 20 rfl) ?_
      refine ev_callV (ev_dt dt_Md_grouped_0 21 rfl) v_Md_166_10 hM1.1 [.int (nI i), .int (nI 4), .int (nI l)] rfl np_Md_mark rfl (ev_lk_of (j := 4) rfl rfl) (r_mark (d := d) (b := l) hM1 hS hnc hC hF1 (by omega) (by omega) (fun h8 A8 hA8 hM8 hf8 hW8 => ev_r1 ?_))
      replace hf8 := hf1.tr hf8
      refine ev_istore_3 (ev_dt dt_Md_grouped_0 22 rfl) (by decide) rfl ?_
      refine ev_aload_0 (ev_dt dt_Md_grouped_0 23 rfl) ?_
      have hcn : cnt (ub (F 1) (pR A T cc cn co th) (kB N (rV A) i l)) (F 1) ≤ 24 := Nat.le_trans (cnt_mono _ (fun r _ h => ub_T h)) h24
      refine ev_callV (ev_dt dt_Md_grouped_0 24 rfl) v_Md_169_10 hM8.1 [] rfl np_Md_answerBest rfl (ev_lk_of (j := 1) rfl rfl) (r_answerBest (S := ub (F 1) (pR A T cc cn co th) (kB N (rV A) i l)) hM8 hF1 hW8 hcn (fun h9 A9 hA9 hI9 hM9 hf9 => ev_r1 ?_))
      replace hf9 := hf8.tr hf9
      rw [kB_G hl] at hI9 hM9 ⊢
      exact ev_ireturn (ev_dt dt_Md_grouped_0 25 rfl) rfl rfl (kk i l h_i rfl hl rfl h9 A9 (fun a a9 a17 a19 => (hA9 a a19).trans (hA8 a a9 a17)) hI9 hM9 hf9)
    · refine ev_if_eqT (tgt := 20) (ev_dt dt_Md_grouped_0 7 rfl) (by decide) z00 ?_
      refine ev_ic1 (ev_dt dt_Md_grouped_0 10 rfl) ?_
      refine rf_pt0 (ev_dt dt_Md_grouped_0 11 rfl) rfl hM (fun h2 hM2 hf2 => ?_)
      refine ev_aload_0 (ev_dt dt_Md_grouped_0 12 rfl) ?_
      refine ev_get (v := .int (nI 1)) (ev_dt dt_Md_grouped_0 13 rfl) g_Md_95_10 hM2.1 rfl ?_
      refine ev_if_leF (tgt := 33) (ev_dt dt_Md_grouped_0 14 rfl) (by decide) (by decide +kernel) ?_
      refine ev_ic0 (ev_dt dt_Md_grouped_0 15 rfl) ?_
      exact ev_ireturn (ev_dt dt_Md_grouped_0 16 rfl) rfl rfl (kx (Or.inr hcol) h2 hM2 hf2)
  · refine ev_if_eqT (tgt := 20) (ev_dt dt_Md_grouped_0 4 rfl) (by decide) z00 ?_
    refine ev_ic1 (ev_dt dt_Md_grouped_0 10 rfl) ?_
    refine rf_pt0 (ev_dt dt_Md_grouped_0 11 rfl) rfl hM (fun h3 hM3 hf3 => ?_)
    refine ev_aload_0 (ev_dt dt_Md_grouped_0 12 rfl) ?_
    refine ev_get (v := .int (nI 1)) (ev_dt dt_Md_grouped_0 13 rfl) g_Md_95_10 hM3.1 rfl ?_
    refine ev_if_leF (tgt := 33) (ev_dt dt_Md_grouped_0 14 rfl) (by decide) (by decide +kernel) ?_
    refine ev_ic0 (ev_dt dt_Md_grouped_0 15 rfl) ?_
    exact ev_ireturn (ev_dt dt_Md_grouped_0 16 rfl) rfl rfl (kx (Or.inl hx) h3 hM3 hf3)
end R8
