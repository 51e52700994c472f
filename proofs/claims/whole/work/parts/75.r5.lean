/-! What the reference says of two rows, for all nodes (written by gen_r5.py over walk.py). -/
section R5
variable {E : ev_E} {d : Nat} {h : ev_h} {sz k n : Nat} {Q : ev_Q}
variable {m : Nat} {F : Nat → Nat} {A : Nat → Nat → Int32}
theorem r_pareto {a b : Fin 4} (kk : Q (.returned (some (.int (nI (jn 6 a b).val)))) h sz k n) : Ev E m_Md_pareto d 0 [some (.int (nI a.val)), some (.int (nI b.val))] [] h sz k n Q := by
  refine ev_iload_0 (ev_dt dt_Md_pareto_0 0 rfl) ?_
  refine ev_ic3 (ev_dt dt_Md_pareto_0 1 rfl) ?_
  refine ev_icmp_eq (tgt := 10) (ev_dt dt_Md_pareto_0 2 rfl) (by decide) (fun g1 => ?_) (fun g1 => ?_)
  · have ha : a = 3 := nv.mp g1
    refine ev_iload_0 (ev_dt dt_Md_pareto_0 6 rfl) ?_
    refine ev_ic3 (ev_dt dt_Md_pareto_0 7 rfl) ?_
    refine ev_icmp_neF (tgt := 19) (ev_dt dt_Md_pareto_0 8 rfl) (by decide) g1 ?_
    refine ev_iload_1 (ev_dt dt_Md_pareto_0 9 rfl) ?_
    refine ev_goto (tgt := 20) (ev_dt dt_Md_pareto_0 10 rfl) (by decide) ?_
    rw [show jn 6 a b = b by simp [jn, ha]] at kk
    exact ev_ireturn (ev_dt dt_Md_pareto_0 12 rfl) rfl rfl kk
  · have ha : a ≠ 3 := fun e => g1 (by rw [e]; rfl)
    refine ev_iload_1 (ev_dt dt_Md_pareto_0 3 rfl) ?_
    refine ev_ic3 (ev_dt dt_Md_pareto_0 4 rfl) ?_
    refine ev_icmp_ne (tgt := 21) (ev_dt dt_Md_pareto_0 5 rfl) (by decide) (fun g2 => ?_) (fun g2 => ?_)
    · have hb : b ≠ 3 := fun e => g2 (by rw [e]; rfl)
      refine ev_iload_0 (ev_dt dt_Md_pareto_0 13 rfl) ?_
      refine ev_iload_1 (ev_dt dt_Md_pareto_0 14 rfl) ?_
      refine ev_icmp_ne (tgt := 30) (ev_dt dt_Md_pareto_0 15 rfl) (by decide) (fun g3 => ?_) (fun g3 => ?_)
      · have hab : a ≠ b := fun e => g3 (by rw [e])
        refine ev_ic0 (ev_dt dt_Md_pareto_0 18 rfl) ?_
        rw [show jn 6 a b = 0 by simp [jn, ha, hb, hab]] at kk
        exact ev_ireturn (ev_dt dt_Md_pareto_0 19 rfl) rfl rfl kk
      · have hab : a = b := nv.mp g3
        refine ev_iload_0 (ev_dt dt_Md_pareto_0 16 rfl) ?_
        refine ev_goto (tgt := 31) (ev_dt dt_Md_pareto_0 17 rfl) (by decide) ?_
        rw [show jn 6 a b = a by simp [jn, ha, hb, hab]] at kk
        exact ev_ireturn (ev_dt dt_Md_pareto_0 19 rfl) rfl rfl kk
    · have hb : b = 3 := nv.mp g2
      refine ev_iload_0 (ev_dt dt_Md_pareto_0 6 rfl) ?_
      refine ev_ic3 (ev_dt dt_Md_pareto_0 7 rfl) ?_
      refine ev_icmp_neT (tgt := 19) (ev_dt dt_Md_pareto_0 8 rfl) (by decide) g1 ?_
      refine ev_iload_0 (ev_dt dt_Md_pareto_0 11 rfl) ?_
      rw [show jn 6 a b = a by simp [jn, ha, hb]] at kk
      exact ev_ireturn (ev_dt dt_Md_pareto_0 12 rfl) rfl rfl kk
theorem r_joined {i : Nat} {a b : Fin 4} {nc : Nat} {N : nod} {ed : Nat → Nat → Int32} {zs : Nat → Nat} (hM : Rf E m F A h) (hS : RS A nc N ed zs) (hnc : nc ≤ 24) (hi : i < nc) (hk6 : ¬ nK N i < 6) (kk : Q (.returned (some (.int (nI (jn (nK N i) a b).val)))) h sz k n) : Ev E m_Md_joined (d + 1) 0 [some (.ref m), some (.int (nI i)), some (.int (nI a.val)), some (.int (nI b.val)), none] [] h sz k n Q := by
  obtain ⟨hk, hk9, -⟩ := hS.1 i hi
  refine ev_aload_0 (ev_dt dt_Md_joined_0 0 rfl) ?_
  refine ev_get (v := .ref (m + 3)) (ev_dt dt_Md_joined_0 1 rfl) g_Md_17_10 hM.1 rfl ?_
  refine ev_iload_1 (ev_dt dt_Md_joined_0 2 rfl) ?_
  refine ev_iald (f := A 2) (ev_dt dt_Md_joined_0 3 rfl) hM.a2 (by omega) (by decide) rfl ?_
  rw [hk]
  refine ev_istore_4 (ev_dt dt_Md_joined_0 4 rfl) (by decide) rfl ?_
  refine ev_iload_4 (ev_dt dt_Md_joined_0 5 rfl) ?_
  refine ev_bipush (ev_dt dt_Md_joined_0 6 rfl) bi_9 ?_
  obtain hk' | hk' | hk' | hk' : nK N i = 6 ∨ nK N i = 7 ∨ nK N i = 8 ∨ nK N i = 9 := by omega
  · refine ev_icmp_neT (tgt := 35) (ev_dt dt_Md_joined_0 7 rfl) (by decide) (by rw [hk']; decide +kernel) ?_
    refine ev_iload_4 (ev_dt dt_Md_joined_0 20 rfl) ?_
    refine ev_bipush (ev_dt dt_Md_joined_0 21 rfl) bi_6 ?_
    refine ev_icmp_neF (tgt := 50) (ev_dt dt_Md_joined_0 22 rfl) (by decide) (by rw [hk']) ?_
    refine ev_iload_2 (ev_dt dt_Md_joined_0 23 rfl) ?_
    refine ev_iload_3 (ev_dt dt_Md_joined_0 24 rfl) ?_
    refine ev_callS (ev_dt dt_Md_joined_0 25 rfl) s_Md_143 [.int (nI a.val), .int (nI b.val)] rfl np_Md_pareto rfl (ev_lk_of (j := 0) rfl rfl) (r_pareto (a := a) (b := b) (ev_r1 ?_))
    refine ev_goto (tgt := 80) (ev_dt dt_Md_joined_0 26 rfl) (by decide) ?_
    rw [hk'] at kk
    exact ev_ireturn (ev_dt dt_Md_joined_0 43 rfl) rfl rfl kk
  · refine ev_icmp_neT (tgt := 35) (ev_dt dt_Md_joined_0 7 rfl) (by decide) (by rw [hk']; decide +kernel) ?_
    refine ev_iload_4 (ev_dt dt_Md_joined_0 20 rfl) ?_
    refine ev_bipush (ev_dt dt_Md_joined_0 21 rfl) bi_6 ?_
    refine ev_icmp_neT (tgt := 50) (ev_dt dt_Md_joined_0 22 rfl) (by decide) (by rw [hk']; decide +kernel) ?_
    refine ev_iload_4 (ev_dt dt_Md_joined_0 27 rfl) ?_
    refine ev_bipush (ev_dt dt_Md_joined_0 28 rfl) bi_7 ?_
    refine ev_icmp_neF (tgt := 70) (ev_dt dt_Md_joined_0 29 rfl) (by decide) (by rw [hk']) ?_
    refine ev_iload_2 (ev_dt dt_Md_joined_0 30 rfl) ?_
    refine ev_ic3 (ev_dt dt_Md_joined_0 31 rfl) ?_
    refine ev_icmp_ne (tgt := 66) (ev_dt dt_Md_joined_0 32 rfl) (by decide) (fun g1 => ?_) (fun g1 => ?_)
    · have ha : a ≠ 3 := fun e => g1 (by rw [e]; rfl)
      refine ev_iload_2 (ev_dt dt_Md_joined_0 35 rfl) ?_
      refine ev_goto (tgt := 80) (ev_dt dt_Md_joined_0 36 rfl) (by decide) ?_
      rw [hk', show jn 7 a b = a by simp [jn, ha]] at kk
      exact ev_ireturn (ev_dt dt_Md_joined_0 43 rfl) rfl rfl kk
    · have ha : a = 3 := nv.mp g1
      refine ev_iload_3 (ev_dt dt_Md_joined_0 33 rfl) ?_
      refine ev_goto (tgt := 80) (ev_dt dt_Md_joined_0 34 rfl) (by decide) ?_
      rw [hk', show jn 7 a b = b by simp [jn, ha]] at kk
      exact ev_ireturn (ev_dt dt_Md_joined_0 43 rfl) rfl rfl kk
  · refine ev_icmp_neT (tgt := 35) (ev_dt dt_Md_joined_0 7 rfl) (by decide) (by rw [hk']; decide +kernel) ?_
    refine ev_iload_4 (ev_dt dt_Md_joined_0 20 rfl) ?_
    refine ev_bipush (ev_dt dt_Md_joined_0 21 rfl) bi_6 ?_
    refine ev_icmp_neT (tgt := 50) (ev_dt dt_Md_joined_0 22 rfl) (by decide) (by rw [hk']; decide +kernel) ?_
    refine ev_iload_4 (ev_dt dt_Md_joined_0 27 rfl) ?_
    refine ev_bipush (ev_dt dt_Md_joined_0 28 rfl) bi_7 ?_
    refine ev_icmp_neT (tgt := 70) (ev_dt dt_Md_joined_0 29 rfl) (by decide) (by rw [hk']; decide +kernel) ?_
    refine ev_iload_2 (ev_dt dt_Md_joined_0 37 rfl) ?_
    refine ev_iload_3 (ev_dt dt_Md_joined_0 38 rfl) ?_
    refine ev_icmp_ne (tgt := 79) (ev_dt dt_Md_joined_0 39 rfl) (by decide) (fun g1 => ?_) (fun g1 => ?_)
    · have hab : a ≠ b := fun e => g1 (by rw [e])
      refine ev_ic0 (ev_dt dt_Md_joined_0 42 rfl) ?_
      rw [hk', show jn 8 a b = 0 by simp [jn, hab]] at kk
      exact ev_ireturn (ev_dt dt_Md_joined_0 43 rfl) rfl rfl kk
    · have hab : a = b := nv.mp g1
      refine ev_iload_2 (ev_dt dt_Md_joined_0 40 rfl) ?_
      refine ev_goto (tgt := 80) (ev_dt dt_Md_joined_0 41 rfl) (by decide) ?_
      rw [hk', show jn 8 a b = a by simp [jn, hab]] at kk
      exact ev_ireturn (ev_dt dt_Md_joined_0 43 rfl) rfl rfl kk
  · refine ev_icmp_neF (tgt := 35) (ev_dt dt_Md_joined_0 7 rfl) (by decide) (by rw [hk']) ?_
    refine ev_iload_2 (ev_dt dt_Md_joined_0 8 rfl) ?_
    refine ev_ic1 (ev_dt dt_Md_joined_0 9 rfl) ?_
    refine ev_icmp_ne (tgt := 24) (ev_dt dt_Md_joined_0 10 rfl) (by decide) (fun g1 => ?_) (fun g1 => ?_)
    · have ha : a ≠ 1 := fun e => g1 (by rw [e]; rfl)
      refine ev_iload_2 (ev_dt dt_Md_joined_0 13 rfl) ?_
      refine ev_ic2 (ev_dt dt_Md_joined_0 14 rfl) ?_
      refine ev_icmp_ne (tgt := 33) (ev_dt dt_Md_joined_0 15 rfl) (by decide) (fun g2 => ?_) (fun g2 => ?_)
      · have ha2 : a ≠ 2 := fun e => g2 (by rw [e]; rfl)
        refine ev_iload_2 (ev_dt dt_Md_joined_0 18 rfl) ?_
        rw [hk', show jn 9 a b = a by simp [jn, ha, ha2]] at kk
        exact ev_ireturn (ev_dt dt_Md_joined_0 19 rfl) rfl rfl kk
      · have ha2 : a = 2 := nv.mp g2
        refine ev_ic1 (ev_dt dt_Md_joined_0 16 rfl) ?_
        refine ev_goto (tgt := 34) (ev_dt dt_Md_joined_0 17 rfl) (by decide) ?_
        rw [hk', show jn 9 a b = 1 by simp [jn, ha2]] at kk
        exact ev_ireturn (ev_dt dt_Md_joined_0 19 rfl) rfl rfl kk
    · have ha : a = 1 := nv.mp g1
      refine ev_ic2 (ev_dt dt_Md_joined_0 11 rfl) ?_
      refine ev_goto (tgt := 34) (ev_dt dt_Md_joined_0 12 rfl) (by decide) ?_
      rw [hk', show jn 9 a b = 2 by simp [jn, ha]] at kk
      exact ev_ireturn (ev_dt dt_Md_joined_0 19 rfl) rfl rfl kk
/-- only what is said has changed -/
def sA (A A' : Nat → Nat → Int32) : Prop := ∀ a, a ≠ 9 → A' a = A a
theorem sA.rf : sA A A := fun _ _ => rfl
theorem sA.up {A' : Nat → Nat → Int32} {i : Nat} {x : Int32} (h : sA A A') : sA A (uA A' 9 i x) := fun a ha => by rw [uA_a ha]; exact h a ha
theorem sA.tr {A' A'' : Nat → Nat → Int32} (h : sA A A') (h2 : sA A' A'') : sA A A'' := fun a ha => (h2 a ha).trans (h a ha)
theorem RS.said {A' : Nat → Nat → Int32} {nc : Nat} {N : nod} {ed : Nat → Nat → Int32} {zs : Nat → Nat} (hS : RS A nc N ed zs) (h : sA A A') : RS A' nc N ed zs := by
  refine ⟨fun i hi => ?_, hS.2⟩
  rw [h 2 (by decide), h 3 (by decide), h 4 (by decide), h 5 (by decide), h 6 (by decide), h 7 (by decide), h 8 (by decide)]
  exact hS.1 i hi
/-- the values of row r -/
def rV (A : Nat → Nat → Int32) (r : Nat) : Nat → Int32 := fun l => A 1 (4 * r + l)
theorem r_say {i u v : Nat} {nc : Nat} {N : nod} {ed : Nat → Nat → Int32} {zs : Nat → Nat} (hM : Rf E m F A h) (hS : RS A nc N ed zs) (hnc : nc ≤ 24) (hi : i < nc) (hu : u < 120) (hv : v < 120) (kk : ∀ h' A', sA A A' → Rf E m F A' h' → fR m h h' → Q (.returned (some (.int (nI (say N (rV A u) (rV A v) i).val)))) h' sz k n) : Ev E m_Md_say (d + 3) 0 [some (.ref m), some (.int (nI i)), some (.int (nI u)), some (.int (nI v)), none] [] h sz k n Q := by
  have loop : ∀ m' j A' h', j + m' = i + 1 → sA A A' → Rf E m F A' h' → fR m h h' → (∀ l, l < j → A' 9 l = nI (say N (rV A u) (rV A v) l).val) → Ev E m_Md_say (d + 3) 3 [some (.ref m), some (.int (nI i)), some (.int (nI u)), some (.int (nI v)), some (.int (nI j))] [] h' sz k n Q := by
    intro m'
    induction m' with
    | zero =>
      intro j A' h' hj hA hM' hf' hI
      refine ev_iload_4 (ev_dt dt_Md_say_0 2 rfl) ?_
      refine ev_iload_1 (ev_dt dt_Md_say_0 3 rfl) ?_
      refine ev_icmp_gtT (tgt := 112) (ev_dt dt_Md_say_0 4 rfl) (by decide) (nI_lt (by omega) (by omega)) ?_
      refine ev_aload_0 (ev_dt dt_Md_say_1 4 rfl) ?_
      refine ev_get (v := .ref (m + 10)) (ev_dt dt_Md_say_1 5 rfl) g_Md_38_10 hM'.1 rfl ?_
      refine ev_iload_1 (ev_dt dt_Md_say_1 6 rfl) ?_
      refine ev_iald (f := A' 9) (ev_dt dt_Md_say_1 7 rfl) hM'.a9 (by omega) (by decide) rfl ?_
      rw [hI i (by omega)]
      exact ev_ireturn (ev_dt dt_Md_say_1 8 rfl) rfl rfl (kk h' A' hA hM' hf')
    | succ m' ih =>
      intro j A' h' hj hA hM' hf' hI
      refine ev_iload_4 (ev_dt dt_Md_say_0 2 rfl) ?_
      refine ev_iload_1 (ev_dt dt_Md_say_0 3 rfl) ?_
      refine ev_icmp_gtF (tgt := 112) (ev_dt dt_Md_say_0 4 rfl) (by decide) (nI_nlt (by omega) (by omega)) ?_
      have hS' := hS.said hA
      obtain ⟨hk, hk9, hcl, hLl, hRr, -⟩ := hS'.1 j (by omega)
      refine ev_aload_0 (ev_dt dt_Md_say_0 5 rfl) ?_
      refine ev_get (v := .ref (m + 3)) (ev_dt dt_Md_say_0 6 rfl) g_Md_17_10 hM'.1 rfl ?_
      refine ev_iload_4 (ev_dt dt_Md_say_0 7 rfl) ?_
      refine ev_iald (f := A' 2) (ev_dt dt_Md_say_0 8 rfl) hM'.a2 (by omega) (by decide) rfl ?_
      rw [hk]
      refine ev_bipush (ev_dt dt_Md_say_0 9 rfl) bi_6 ?_
      refine ev_icmp_ge (tgt := 69) (ev_dt dt_Md_say_0 10 rfl) (by decide) (fun g1 => ?_) (fun g1 => ?_)
      · have hk6 : ¬ nK N j < 6 := fun e => absurd (nI_lt e (by omega)) (Int32.not_lt.mpr g1)
        obtain ⟨tA, tB, tl, tq⟩ := hS.2.2.2 j (by omega) hk6
        refine ev_aload_0 (ev_dt dt_Md_say_0 41 rfl) ?_
        refine ev_get (v := .ref (m + 10)) (ev_dt dt_Md_say_0 42 rfl) g_Md_38_10 hM'.1 rfl ?_
        refine ev_iload_4 (ev_dt dt_Md_say_0 43 rfl) ?_
        refine ev_aload_0 (ev_dt dt_Md_say_0 44 rfl) ?_
        refine ev_iload_4 (ev_dt dt_Md_say_0 45 rfl) ?_
        refine ev_aload_0 (ev_dt dt_Md_say_0 46 rfl) ?_
        refine ev_get (v := .ref (m + 10)) (ev_dt dt_Md_say_0 47 rfl) g_Md_38_10 hM'.1 rfl ?_
        refine ev_aload_0 (ev_dt dt_Md_say_0 48 rfl) ?_
        refine ev_get (v := .ref (m + 5)) (ev_dt dt_Md_say_0 49 rfl) g_Md_23_10 hM'.1 rfl ?_
        refine ev_iload_4 (ev_dt dt_Md_say_0 50 rfl) ?_
        refine ev_iald (f := A' 4) (ev_dt dt_Md_say_0 51 rfl) hM'.a4 (by omega) (by decide) rfl ?_
        rw [hLl, tA]
        refine ev_iald (f := A' 9) (ev_dt dt_Md_say_0 52 rfl) hM'.a9 (by omega) (by decide) rfl ?_
        rw [hI _ (by omega)]
        refine ev_aload_0 (ev_dt dt_Md_say_0 53 rfl) ?_
        refine ev_get (v := .ref (m + 10)) (ev_dt dt_Md_say_0 54 rfl) g_Md_38_10 hM'.1 rfl ?_
        refine ev_aload_0 (ev_dt dt_Md_say_0 55 rfl) ?_
        refine ev_get (v := .ref (m + 6)) (ev_dt dt_Md_say_0 56 rfl) g_Md_26_10 hM'.1 rfl ?_
        refine ev_iload_4 (ev_dt dt_Md_say_0 57 rfl) ?_
        refine ev_iald (f := A' 5) (ev_dt dt_Md_say_0 58 rfl) hM'.a5 (by omega) (by decide) rfl ?_
        rw [hRr, tB]
        refine ev_iald (f := A' 9) (ev_dt dt_Md_say_0 59 rfl) hM'.a9 (by omega) (by decide) rfl ?_
        rw [hI _ (by omega)]
        refine ev_callV (ev_dt dt_Md_say_1 0 rfl) v_Md_149_10 hM'.1 [.int (nI j), .int (nI (say N (rV A u) (rV A v) (nL N j)).val), .int (nI (say N (rV A u) (rV A v) (nQ N j)).val)] rfl np_Md_joined rfl (ev_lk_of (j := 1) rfl rfl) (r_joined (d := d + 1) hM' hS' hnc (by omega) hk6 (ev_r1 ?_))
        refine rf_st9 (ev_dt dt_Md_say_1 1 rfl) hM' (by omega) (fun h51 hM51 hf51 => ?_)
        replace hf51 := hf'.tr hf51
        refine ev_inc1_4 (ev_dt dt_Md_say_1 2 rfl) (by decide) rfl ?_
        refine ev_goto (tgt := 3) (ev_dt dt_Md_say_1 3 rfl) (by decide) ?_
        exact ih (j + 1) _ _ (by omega) hA.up hM51 hf51 (fun l hl => by
          rw [uA_u]
          by_cases e : l = j
          · subst e; rw [pk_us, say_t hk6 ⟨tl, tq⟩]
          · rw [pk_un e]; exact hI l (by omega))
      · have hk6 : nK N j < 6 := (nI_ltI (by omega) (by omega)).mp (Int32.not_le.mp g1)
        obtain ⟨hc, hc4⟩ := hcl hk6
        refine ev_aload_0 (ev_dt dt_Md_say_0 11 rfl) ?_
        refine ev_get (v := .ref (m + 10)) (ev_dt dt_Md_say_0 12 rfl) g_Md_38_10 hM'.1 rfl ?_
        refine ev_iload_4 (ev_dt dt_Md_say_0 13 rfl) ?_
        refine ev_aload_0 (ev_dt dt_Md_say_0 14 rfl) ?_
        refine ev_iload_4 (ev_dt dt_Md_say_0 15 rfl) ?_
        refine ev_aload_0 (ev_dt dt_Md_say_0 16 rfl) ?_
        refine ev_get (v := .ref (m + 2)) (ev_dt dt_Md_say_0 17 rfl) g_Md_13_10 hM'.1 rfl ?_
        refine ev_ic4 (ev_dt dt_Md_say_0 18 rfl) ?_
        refine ev_iload_2 (ev_dt dt_Md_say_0 19 rfl) ?_
        refine ev_imul (ev_dt dt_Md_say_0 20 rfl) (nI_mul _ _) ?_
        refine ev_aload_0 (ev_dt dt_Md_say_0 21 rfl) ?_
        refine ev_get (v := .ref (m + 4)) (ev_dt dt_Md_say_0 22 rfl) g_Md_20_10 hM'.1 rfl ?_
        refine ev_iload_4 (ev_dt dt_Md_say_0 23 rfl) ?_
        refine ev_iald (f := A' 3) (ev_dt dt_Md_say_0 24 rfl) hM'.a3 (by omega) (by decide) rfl ?_
        rw [hc]
        refine ev_addn (ev_dt dt_Md_say_0 25 rfl) ?_
        refine ev_iald (f := A' 1) (ev_dt dt_Md_say_0 26 rfl) hM'.a1 (by omega) (by decide) rfl ?_
        rw [hA 1 (by decide)]
        refine ev_aload_0 (ev_dt dt_Md_say_0 27 rfl) ?_
        refine ev_get (v := .ref (m + 2)) (ev_dt dt_Md_say_0 28 rfl) g_Md_13_10 hM'.1 rfl ?_
        refine ev_ic4 (ev_dt dt_Md_say_0 29 rfl) ?_
        refine ev_iload_3 (ev_dt dt_Md_say_0 30 rfl) ?_
        refine ev_imul (ev_dt dt_Md_say_0 31 rfl) (nI_mul _ _) ?_
        refine ev_aload_0 (ev_dt dt_Md_say_0 32 rfl) ?_
        refine ev_get (v := .ref (m + 4)) (ev_dt dt_Md_say_0 33 rfl) g_Md_20_10 hM'.1 rfl ?_
        refine ev_iload_4 (ev_dt dt_Md_say_0 34 rfl) ?_
        refine ev_iald (f := A' 3) (ev_dt dt_Md_say_0 35 rfl) hM'.a3 (by omega) (by decide) rfl ?_
        rw [hc]
        refine ev_addn (ev_dt dt_Md_say_0 36 rfl) ?_
        refine ev_iald (f := A' 1) (ev_dt dt_Md_say_0 37 rfl) hM'.a1 (by omega) (by decide) rfl ?_
        rw [hA 1 (by decide)]
        refine ev_callV (ev_dt dt_Md_say_0 38 rfl) v_Md_146_10 hM'.1 [.int (nI j), .int (A 1 (4 * u + nC N j)), .int (A 1 (4 * v + nC N j))] rfl np_Md_ordered rfl (ev_lk_of (j := 0) rfl rfl) (r_ordered (d := d) hM' hS' hnc (by omega) hk6 (ev_r1 ?_))
        refine rf_st9 (ev_dt dt_Md_say_0 39 rfl) hM' (by omega) (fun h52 hM52 hf52 => ?_)
        replace hf52 := hf'.tr hf52
        refine ev_goto (tgt := 106) (ev_dt dt_Md_say_0 40 rfl) (by decide) ?_
        refine ev_inc1_4 (ev_dt dt_Md_say_1 2 rfl) (by decide) rfl ?_
        refine ev_goto (tgt := 3) (ev_dt dt_Md_say_1 3 rfl) (by decide) ?_
        exact ih (j + 1) _ _ (by omega) hA.up hM52 hf52 (fun l hl => by
          rw [uA_u]
          by_cases e : l = j
          · subst e; rw [pk_us, say_o hk6]; rfl
          · rw [pk_un e]; exact hI l (by omega))
  refine ev_ic0 (ev_dt dt_Md_say_0 0 rfl) ?_
  refine ev_istore_4 (ev_dt dt_Md_say_0 1 rfl) (by decide) rfl ?_
  exact loop (i + 1) 0 A h (by omega) sA.rf hM fR.rf (fun l hl => absurd hl (Nat.not_lt_zero _))
theorem r_compare {x y z : Int32} {nc : Nat} {N : nod} {ed : Nat → Nat → Int32} {zs : Nat → Nat} (hM : Rf E m F A h) (hS : RS A nc N ed zs) (hnc : nc ≤ 24) (hF2 : F 2 = nc) {T : Nat → Bool} (hT : ∀ r, r < 120 → A 0 r = b2 (T r)) (hF1 : F 1 ≤ 120) (kx : (∀ i, i < F 2 → x ≠ nI i) ∨ (∀ r, r < F 1 → T r = true → y ≠ nI r) ∨ (∀ r, r < F 1 → T r = true → z ≠ nI r) → ∀ h', Rf E m (uF F 0 1) A h' → fR m h h' → Q (.returned (some (.int (nI 0)))) h' sz k n) (kk : ∀ i u v, i < F 2 → x = nI i → u < F 1 → T u = true → y = nI u → v < F 1 → T v = true → z = nI v → ∀ h' A', sA A A' → Rf E m (uF F 0 0) A' h' → fR m h h' → Q (.returned (some (.int (nI (say N (rV A u) (rV A v) i).val)))) h' sz k n) : Ev E m_Md_compare (d + 4) 0 [some (.ref m), some (.int x), some (.int y), some (.int z)] [] h sz k n Q := by
  refine ev_aload_0 (ev_dt dt_Md_compare_0 0 rfl) ?_
  refine ev_aload_0 (ev_dt dt_Md_compare_0 1 rfl) ?_
  refine ev_iload_1 (ev_dt dt_Md_compare_0 2 rfl) ?_
  refine ev_callV (ev_dt dt_Md_compare_0 3 rfl) v_Md_116_10 hM.1 [.int x] rfl np_Md_isNode rfl (ev_lk_of (j := 0) rfl rfl) (r_isNode hM (show F 2 ≤ 24 by omega) (fun (hx : ∃ j, j < F 2 ∧ x = nI j) => ev_r1 ?_) (fun (hx : ∀ j, j < F 2 → x ≠ nI j) => ev_r1 ?_))
  · obtain ⟨i, h_i, rfl⟩ := hx
    refine ev_if_eqF (tgt := 29) (ev_dt dt_Md_compare_0 4 rfl) (by decide) z10 ?_
    refine ev_aload_0 (ev_dt dt_Md_compare_0 5 rfl) ?_
    refine ev_iload_2 (ev_dt dt_Md_compare_0 6 rfl) ?_
    refine ev_callV (ev_dt dt_Md_compare_0 7 rfl) v_Md_109_10 hM.1 [.int y] rfl np_Md_isRow rfl (ev_lk_of (j := 0) rfl rfl) (r_isRow hT hM hF1 (fun u (h_u : u < F 1) ht_u hx_u => ev_r1 ?_) (fun (hno : ∀ r, r < F 1 → T r = true → y ≠ nI r) => ev_r1 ?_))
    · subst hx_u
      refine ev_if_eqF (tgt := 29) (ev_dt dt_Md_compare_0 8 rfl) (by decide) z10 ?_
      refine ev_aload_0 (ev_dt dt_Md_compare_0 9 rfl) ?_
      refine ev_iload_3 (ev_dt dt_Md_compare_0 10 rfl) ?_
      refine ev_callV (ev_dt dt_Md_compare_0 11 rfl) v_Md_109_10 hM.1 [.int z] rfl np_Md_isRow rfl (ev_lk_of (j := 0) rfl rfl) (r_isRow hT hM hF1 (fun v (h_v : v < F 1) ht_v hx_v => ev_r1 ?_) (fun (hno : ∀ r, r < F 1 → T r = true → z ≠ nI r) => ev_r1 ?_))
      · subst hx_v
        refine ev_if_eqF (tgt := 29) (ev_dt dt_Md_compare_0 12 rfl) (by decide) z10 ?_
        refine ev_ic0 (ev_dt dt_Md_compare_0 13 rfl) ?_
        refine ev_goto (tgt := 30) (ev_dt dt_Md_compare_0 14 rfl) (by decide) ?_
        refine rf_pt0 (ev_dt dt_Md_compare_0 16 rfl) rfl hM (fun h1 hM1 hf1 => ?_)
        refine ev_aload_0 (ev_dt dt_Md_compare_0 17 rfl) ?_
        refine ev_get (v := .int (nI 0)) (ev_dt dt_Md_compare_0 18 rfl) g_Md_95_10 hM1.1 rfl ?_
        refine ev_if_leT (tgt := 44) (ev_dt dt_Md_compare_0 19 rfl) (by decide) (by decide +kernel) ?_
        refine ev_aload_0 (ev_dt dt_Md_compare_0 22 rfl) ?_
        refine ev_iload_1 (ev_dt dt_Md_compare_0 23 rfl) ?_
        refine ev_iload_2 (ev_dt dt_Md_compare_0 24 rfl) ?_
        refine ev_iload_3 (ev_dt dt_Md_compare_0 25 rfl) ?_
        refine ev_callV (ev_dt dt_Md_compare_0 26 rfl) v_Md_152_10 hM1.1 [.int (nI i), .int (nI u), .int (nI v)] rfl np_Md_say rfl (ev_lk_of (j := 1) rfl rfl) (r_say (d := d) hM1 hS hnc (by omega) (by omega) (by omega) (fun h9 A9 hA9 hM9 hf9 => ev_r1 ?_))
        exact ev_ireturn (ev_dt dt_Md_compare_0 27 rfl) rfl rfl (kk i u v h_i rfl h_u ht_u rfl h_v ht_v rfl h9 A9 hA9 hM9 (hf1.tr hf9))
      · refine ev_if_eqT (tgt := 29) (ev_dt dt_Md_compare_0 12 rfl) (by decide) z00 ?_
        refine ev_ic1 (ev_dt dt_Md_compare_0 15 rfl) ?_
        refine rf_pt0 (ev_dt dt_Md_compare_0 16 rfl) rfl hM (fun h2 hM2 hf2 => ?_)
        refine ev_aload_0 (ev_dt dt_Md_compare_0 17 rfl) ?_
        refine ev_get (v := .int (nI 1)) (ev_dt dt_Md_compare_0 18 rfl) g_Md_95_10 hM2.1 rfl ?_
        refine ev_if_leF (tgt := 44) (ev_dt dt_Md_compare_0 19 rfl) (by decide) (by decide +kernel) ?_
        refine ev_ic0 (ev_dt dt_Md_compare_0 20 rfl) ?_
        refine ev_goto (tgt := 51) (ev_dt dt_Md_compare_0 21 rfl) (by decide) ?_
        exact ev_ireturn (ev_dt dt_Md_compare_0 27 rfl) rfl rfl (kx (Or.inr (Or.inr hno)) h2 hM2 hf2)
    · refine ev_if_eqT (tgt := 29) (ev_dt dt_Md_compare_0 8 rfl) (by decide) z00 ?_
      refine ev_ic1 (ev_dt dt_Md_compare_0 15 rfl) ?_
      refine rf_pt0 (ev_dt dt_Md_compare_0 16 rfl) rfl hM (fun h3 hM3 hf3 => ?_)
      refine ev_aload_0 (ev_dt dt_Md_compare_0 17 rfl) ?_
      refine ev_get (v := .int (nI 1)) (ev_dt dt_Md_compare_0 18 rfl) g_Md_95_10 hM3.1 rfl ?_
      refine ev_if_leF (tgt := 44) (ev_dt dt_Md_compare_0 19 rfl) (by decide) (by decide +kernel) ?_
      refine ev_ic0 (ev_dt dt_Md_compare_0 20 rfl) ?_
      refine ev_goto (tgt := 51) (ev_dt dt_Md_compare_0 21 rfl) (by decide) ?_
      exact ev_ireturn (ev_dt dt_Md_compare_0 27 rfl) rfl rfl (kx (Or.inr (Or.inl hno)) h3 hM3 hf3)
  · refine ev_if_eqT (tgt := 29) (ev_dt dt_Md_compare_0 4 rfl) (by decide) z00 ?_
    refine ev_ic1 (ev_dt dt_Md_compare_0 15 rfl) ?_
    refine rf_pt0 (ev_dt dt_Md_compare_0 16 rfl) rfl hM (fun h4 hM4 hf4 => ?_)
    refine ev_aload_0 (ev_dt dt_Md_compare_0 17 rfl) ?_
    refine ev_get (v := .int (nI 1)) (ev_dt dt_Md_compare_0 18 rfl) g_Md_95_10 hM4.1 rfl ?_
    refine ev_if_leF (tgt := 44) (ev_dt dt_Md_compare_0 19 rfl) (by decide) (by decide +kernel) ?_
    refine ev_ic0 (ev_dt dt_Md_compare_0 20 rfl) ?_
    refine ev_goto (tgt := 51) (ev_dt dt_Md_compare_0 21 rfl) (by decide) ?_
    exact ev_ireturn (ev_dt dt_Md_compare_0 27 rfl) rfl rfl (kx (Or.inl hx) h4 hM4 hf4)
end R5
