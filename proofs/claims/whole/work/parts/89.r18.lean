/-! dual, reducedTerm, write, reduce, in the reference (written by gen_r18.py over walk.py). -/
theorem uF_id {F : Nat → Nat} {i : Nat} : uF F i (F i) = F := by
  funext j; unfold uF; split
  · rename_i e; rw [e]
  · rfl
theorem nI_dec (w : Nat) : nI (w + 1) + Int32.ofInt (-1) = nI w := by
  rw [show Int32.ofInt (-1) = -1 from rfl, ← Int32.sub_eq_add_neg]; exact nI_pred w
theorem RS.low {A A' : Nat → Nat → Int32} {nc : Nat} {N : nod} {ed : Nat → Nat → Int32} {zs : Nat → Nat} (h : RS A nc N ed zs) (ha : ∀ a, a < 20 → A' a = A a) : RS A' nc N ed zs := by
  unfold RS RN
  rw [ha 2 (by decide), ha 3 (by decide), ha 4 (by decide), ha 5 (by decide), ha 6 (by decide), ha 7 (by decide), ha 8 (by decide)]
  exact h
theorem okI.cg {A A' : Nat → Nat → Int32} {m : Nat} (h : okI A m) (ha : ∀ a, 20 ≤ a → a ≤ 24 → A' a = A a) : okI A' m := by
  unfold okI mT
  rw [ha 20 (by decide) (by decide), ha 21 (by decide) (by decide), ha 22 (by decide) (by decide), ha 23 (by decide) (by decide), ha 24 (by decide) (by decide)]
  exact h
section R18
variable {E : ev_E} {d : Nat} {h : ev_h} {sz k n : Nat} {Q : ev_Q}
variable {m : Nat} {F : Nat → Nat} {A : Nat → Nat → Int32}
theorem r_pl {kd : Nat} {c a b : Int32} (hM : Rf E m F A h) (hI : okI A (F 4)) (hF4 : F 4 < 100) (hq : okQ (F 4) kd c a b) (kk : ∀ h' A' m' r, mdE A A' (F 4) m' → m' ≤ F 4 + 1 → r < m' → A' 20 r = nI kd → A' 21 r = c → A' 22 r = a → A' 23 r = b → Rf E m (uF F 4 m') A' h' → fR m h h' → Q (.returned (some (.int (nI r)))) h' sz k n) : Ev E m_Md_place d 0 [some (.ref m), some (.int (nI kd)), some (.int c), some (.int a), some (.int b), none] [] h sz k n Q := by
  refine r_place hM hF4 (fun q => ?_) (fun j hj e => kk h A (F 4) j (mdE.rf hI) (by omega) hj e.1 e.2.1 e.2.2.1 e.2.2.2 (by rw [uF_id]; exact hM) fR.rf) (fun hno v h1 h2 h' hM' hf => kk h' _ (F 4 + 1) (F 4) (okI_new hI hF4 hq hno h1 h2 (fun z hz => by rw [uA_a (by omega), uA_a (by omega), uA_a (by omega), uA_a (by omega), uA_a (by omega)]) rfl rfl rfl rfl rfl) (by omega) (by omega) (show upd (A 20) (F 4) (nI kd) (F 4) = (nI kd) from pk_us) (show upd (A 21) (F 4) c (F 4) = c from pk_us) (show upd (A 22) (F 4) a (F 4) = a from pk_us) (show upd (A 23) (F 4) b (F 4) = b from pk_us) hM' hf)
  rcases hq.2 with ⟨q1, -⟩ | ⟨q1, q2, a', b', q3, q4, q5, q6, -⟩
  · exact absurd (nI_lt q1 (by omega)) q
  · exact ⟨a', b', q3, q4, q5, q6⟩
theorem r_ro {i : Nat} {nc : Nat} {N : nod} {ed : Nat → Nat → Int32} {zs : Nat → Nat} (hM : Rf E m F A h) (hN : RN A nc N ed zs) (hnc : nc ≤ 24) (hi : i < nc) (hk6 : nK N i < 6) (hI : okI A (F 4)) (hF4 : F 4 < 100) (kk : ∀ h' A' m' r, mdE A A' (F 4) m' → m' ≤ F 4 + 1 → r < m' → A' 20 r = nI (nK N i) → A' 21 r = nI (nC N i) → A' 22 r = qa N i → A' 23 r = qb N i → Rf E m (uF F 4 m') A' h' → fR m h h' → Q (.returned (some (.int (nI r)))) h' sz k n) : Ev E m_Md_reducedOrder (d + 1) 0 [some (.ref m), some (.int (nI i)), none, none] [] h sz k n Q := by
  refine r_reducedOrder hM hN hnc hi hk6 hF4 (fun j hj e => kk h A (F 4) j (mdE.rf hI) (by omega) hj e.1 e.2.1 e.2.2.1 e.2.2.2 (by rw [uF_id]; exact hM) fR.rf) (fun hno v hv h' hM' hf => kk h' _ (F 4 + 1) (F 4) (okI_new hI hF4 (qo_ok hk6) hno (fun _ => hv) (fun q => absurd (nI_lt hk6 (by omega)) q) (fun z hz => by rw [uA_a (by omega), uA_a (by omega), uA_a (by omega), uA_a (by omega), uA_a (by omega)]) rfl rfl rfl rfl rfl) (by omega) (by omega) (show upd (A 20) (F 4) (nI (nK N i)) (F 4) = (nI (nK N i)) from pk_us) (show upd (A 21) (F 4) (nI (nC N i)) (F 4) = (nI (nC N i)) from pk_us) (show upd (A 22) (F 4) (qa N i) (F 4) = (qa N i) from pk_us) (show upd (A 23) (F 4) (qb N i) (F 4) = (qb N i) from pk_us) hM' hf)
theorem r_dual {p : Nat} (hM : Rf E m F A h) (hI : okI A (F 4)) (hF4 : F 4 < 100) (hp : p < F 4) (kk : ∀ h' A' m' r, mdE A A' (F 4) m' → m' ≤ F 4 + 1 → r < m' → fm (mT A') r = rd (fm (mT A) p) → A' 24 r = A 24 p → Rf E m (uF F 4 m') A' h' → fR m h h' → Q (.returned (some (.int (nI r)))) h' sz k n) : Ev E m_Md_dual (d + 1) 0 [some (.ref m), some (.int (nI p)), none] [] h sz k n Q := by
  obtain ⟨kd, hk9, ek⟩ := (hI.2 p hp).1
  refine ev_aload_0 (ev_dt dt_Md_dual_0 0 rfl) ?_
  refine ev_get (v := .ref (m + 21)) (ev_dt dt_Md_dual_0 1 rfl) g_Md_71_10 hM.1 rfl ?_
  refine ev_iload_1 (ev_dt dt_Md_dual_0 2 rfl) ?_
  refine ev_iald (f := A 20) (ev_dt dt_Md_dual_0 3 rfl) hM.a20 (by omega) (by decide) rfl ?_
  rw [ek]
  refine ev_istore_2 (ev_dt dt_Md_dual_0 4 rfl) (by decide) rfl ?_
  refine ev_iload_2 (ev_dt dt_Md_dual_0 5 rfl) ?_
  refine ev_bipush (ev_dt dt_Md_dual_0 6 rfl) bi_9 ?_
  by_cases e9 : kd = 9
  · subst e9
    obtain ⟨a, ha, ea, -, fa, ga⟩ := fq_9 hI hp ek
    refine ev_icmp_neF (tgt := 20) (ev_dt dt_Md_dual_0 7 rfl) (by decide) rfl ?_
    refine ev_aload_0 (ev_dt dt_Md_dual_0 8 rfl) ?_
    refine ev_get (v := .ref (m + 23)) (ev_dt dt_Md_dual_0 9 rfl) g_Md_77_10 hM.1 rfl ?_
    refine ev_iload_1 (ev_dt dt_Md_dual_0 10 rfl) ?_
    refine ev_iald (f := A 22) (ev_dt dt_Md_dual_0 11 rfl) hM.a22 (by omega) (by decide) rfl ?_
    rw [ea]
    exact ev_ireturn (ev_dt dt_Md_dual_0 12 rfl) rfl rfl (kk h A (F 4) a (mdE.rf hI) (by omega) (by omega) (du_9 fa) ga.symm (by rw [uF_id]; exact hM) fR.rf)
  · refine ev_icmp_neT (tgt := 20) (ev_dt dt_Md_dual_0 7 rfl) (by decide) (fun q => e9 ((nI_k9 hk9).1.mp q)) ?_
    refine ev_iload_2 (ev_dt dt_Md_dual_0 13 rfl) ?_
    refine ev_ic2 (ev_dt dt_Md_dual_0 14 rfl) ?_
    by_cases e2 : kd < 2
    · obtain rfl | rfl : kd = 0 ∨ kd = 1 := by omega
      · refine ev_icmp_geF (tgt := 43) (ev_dt dt_Md_dual_0 15 rfl) (by decide) (by decide +kernel) ?_
        refine ev_aload_0 (ev_dt dt_Md_dual_0 16 rfl) ?_
        refine ev_ic1 (ev_dt dt_Md_dual_0 17 rfl) ?_
        refine ev_iload_2 (ev_dt dt_Md_dual_0 18 rfl) ?_
        refine ev_isub (ev_dt dt_Md_dual_0 19 rfl) (nI_sub (by omega)) ?_
        refine ev_aload_0 (ev_dt dt_Md_dual_0 20 rfl) ?_
        refine ev_get (v := .ref (m + 22)) (ev_dt dt_Md_dual_0 21 rfl) g_Md_74_10 hM.1 rfl ?_
        refine ev_iload_1 (ev_dt dt_Md_dual_0 22 rfl) ?_
        refine ev_iald (f := A 21) (ev_dt dt_Md_dual_0 23 rfl) hM.a21 (by omega) (by decide) rfl ?_
        refine ev_ic0 (ev_dt dt_Md_dual_0 24 rfl) ?_
        refine ev_ic0 (ev_dt dt_Md_dual_0 25 rfl) ?_
        refine ev_callV (ev_dt dt_Md_dual_0 26 rfl) v_Md_183_10 hM.1 [.int (nI (1 - 0)), .int (A 21 p), .int (nI 0), .int (nI 0)] rfl np_Md_place rfl (ev_lk_of (j := 1) rfl rfl) (r_pl (d := d) hM hI hF4 ⟨by omega, Or.inl ⟨by omega, fun _ => rfl, fun _ => rfl⟩⟩ (fun h' A' m' r hE hm hr e1 e2 e3 e4 hM' hf' => ev_r1 ?_))
        refine ev_goto (tgt := 52) (ev_dt dt_Md_dual_0 27 rfl) (by decide) ?_
        exact ev_ireturn (ev_dt dt_Md_dual_0 34 rfl) rfl rfl (kk h' A' m' r hE hm hr (du_a hI hp ek (by decide) hE hr e1 e2).1 (du_a hI hp ek (by decide) hE hr e1 e2).2 hM' hf')
      · refine ev_icmp_geF (tgt := 43) (ev_dt dt_Md_dual_0 15 rfl) (by decide) (by decide +kernel) ?_
        refine ev_aload_0 (ev_dt dt_Md_dual_0 16 rfl) ?_
        refine ev_ic1 (ev_dt dt_Md_dual_0 17 rfl) ?_
        refine ev_iload_2 (ev_dt dt_Md_dual_0 18 rfl) ?_
        refine ev_isub (ev_dt dt_Md_dual_0 19 rfl) (nI_sub (by omega)) ?_
        refine ev_aload_0 (ev_dt dt_Md_dual_0 20 rfl) ?_
        refine ev_get (v := .ref (m + 22)) (ev_dt dt_Md_dual_0 21 rfl) g_Md_74_10 hM.1 rfl ?_
        refine ev_iload_1 (ev_dt dt_Md_dual_0 22 rfl) ?_
        refine ev_iald (f := A 21) (ev_dt dt_Md_dual_0 23 rfl) hM.a21 (by omega) (by decide) rfl ?_
        refine ev_ic0 (ev_dt dt_Md_dual_0 24 rfl) ?_
        refine ev_ic0 (ev_dt dt_Md_dual_0 25 rfl) ?_
        refine ev_callV (ev_dt dt_Md_dual_0 26 rfl) v_Md_183_10 hM.1 [.int (nI (1 - 1)), .int (A 21 p), .int (nI 0), .int (nI 0)] rfl np_Md_place rfl (ev_lk_of (j := 1) rfl rfl) (r_pl (d := d) hM hI hF4 ⟨by omega, Or.inl ⟨by omega, fun _ => rfl, fun _ => rfl⟩⟩ (fun h' A' m' r hE hm hr e1 e2 e3 e4 hM' hf' => ev_r1 ?_))
        refine ev_goto (tgt := 52) (ev_dt dt_Md_dual_0 27 rfl) (by decide) ?_
        exact ev_ireturn (ev_dt dt_Md_dual_0 34 rfl) rfl rfl (kk h' A' m' r hE hm hr (du_a hI hp ek (by decide) hE hr e1 e2).1 (du_a hI hp ek (by decide) hE hr e1 e2).2 hM' hf')
    · refine ev_icmp_geT (tgt := 43) (ev_dt dt_Md_dual_0 15 rfl) (by decide) (nI_le (by omega) (by omega)) ?_
      refine ev_aload_0 (ev_dt dt_Md_dual_0 28 rfl) ?_
      refine ev_bipush (ev_dt dt_Md_dual_0 29 rfl) bi_9 ?_
      refine ev_icm (ev_dt dt_Md_dual_0 30 rfl) ?_
      refine ev_iload_1 (ev_dt dt_Md_dual_0 31 rfl) ?_
      refine ev_iload_1 (ev_dt dt_Md_dual_0 32 rfl) ?_
      refine ev_callV (ev_dt dt_Md_dual_0 33 rfl) v_Md_183_10 hM.1 [.int (nI 9), .int (-1), .int (nI p), .int (nI p)] rfl np_Md_place rfl (ev_lk_of (j := 1) rfl rfl) (r_pl (d := d) hM hI hF4 ⟨by omega, Or.inr ⟨by omega, rfl, p, p, rfl, rfl, hp, hp, fun _ => rfl⟩⟩ (fun h' A' m' r hE hm hr e1 e2 e3 e4 hM' hf' => ev_r1 ?_))
      exact ev_ireturn (ev_dt dt_Md_dual_0 34 rfl) rfl rfl (kk h' A' m' r hE hm hr (du_b hI hp ek (by omega) (by omega) hE hr e1 e3).1 (du_b hI hp ek (by omega) (by omega) hE hr e1 e3).2 hM' hf')
theorem r_reducedTerm {kd p q : Nat} (hM : Rf E m F A h) (hI : okI A (F 4)) (hF4 : F 4 + 1 < 100) (h6 : 6 ≤ kd) (hk9 : kd ≤ 9) (hp : p < F 4) (hq : q < F 4) (kk : ∀ h' A' m' r, tR A A' (F 4) m' kd p q r → Rf E m (uF F 4 m') A' h' → fR m h h' → Q (.returned (some (.int (nI r)))) h' sz k n) : Ev E m_Md_reducedTerm (d + 2) 0 [some (.ref m), some (.int (nI kd)), some (.int (nI p)), some (.int (nI q)), none] [] h sz k n Q := by
  have hF4' : F 4 < 100 := by omega
  refine ev_iload_1 (ev_dt dt_Md_reducedTerm_0 0 rfl) ?_
  refine ev_bipush (ev_dt dt_Md_reducedTerm_0 1 rfl) bi_9 ?_
  by_cases e9 : kd = 9
  · subst e9
    refine ev_icmp_neF (tgt := 12) (ev_dt dt_Md_reducedTerm_0 2 rfl) (by decide) rfl ?_
    refine ev_aload_0 (ev_dt dt_Md_reducedTerm_0 3 rfl) ?_
    refine ev_iload_2 (ev_dt dt_Md_reducedTerm_0 4 rfl) ?_
    refine ev_callV (ev_dt dt_Md_reducedTerm_0 5 rfl) v_Md_187_10 hM.1 [.int (nI p)] rfl np_Md_dual rfl (ev_lk_of (j := 1) rfl rfl) (r_dual (d := d) hM hI hF4' hp (fun h' A' m' r hE hm hr hf1 hk1 hM' hf' => ev_r1 ?_))
    exact ev_ireturn (ev_dt dt_Md_reducedTerm_0 6 rfl) rfl rfl (kk h' A' m' r (tR_9 hE hm hr hf1 hk1) hM' hf')
  · refine ev_icmp_neT (tgt := 12) (ev_dt dt_Md_reducedTerm_0 2 rfl) (by decide) (fun z => e9 ((nI_k9 hk9).1.mp z)) ?_
    refine ev_iload_2 (ev_dt dt_Md_reducedTerm_0 7 rfl) ?_
    refine ev_iload_3 (ev_dt dt_Md_reducedTerm_0 8 rfl) ?_
    by_cases epq : p = q
    · refine ev_icmp_eqT (tgt := 41) (ev_dt dt_Md_reducedTerm_0 9 rfl) (by decide) (by rw [epq]) ?_
      refine ev_iload_2 (ev_dt dt_Md_reducedTerm_0 25 rfl) ?_
      exact ev_ireturn (ev_dt dt_Md_reducedTerm_0 26 rfl) rfl rfl (kk h A (F 4) p (tR_p hI e9 hp (Or.inl epq)) (by rw [uF_id]; exact hM) fR.rf)
    · refine ev_icmp_eqF (tgt := 41) (ev_dt dt_Md_reducedTerm_0 9 rfl) (by decide) (fun z => epq ((nI_eq (by omega) (by omega)).mp z)) ?_
      refine ev_iload_1 (ev_dt dt_Md_reducedTerm_0 10 rfl) ?_
      refine ev_bipush (ev_dt dt_Md_reducedTerm_0 11 rfl) bi_7 ?_
      by_cases e7 : kd = 7
      · subst e7
        refine ev_icmp_neF (tgt := 43) (ev_dt dt_Md_reducedTerm_0 12 rfl) (by decide) rfl ?_
        refine ev_aload_0 (ev_dt dt_Md_reducedTerm_0 13 rfl) ?_
        refine ev_get (v := .ref (m + 25)) (ev_dt dt_Md_reducedTerm_0 14 rfl) g_Md_83_10 hM.1 rfl ?_
        refine ev_iload_3 (ev_dt dt_Md_reducedTerm_0 15 rfl) ?_
        refine ev_iald (f := A 24) (ev_dt dt_Md_reducedTerm_0 16 rfl) hM.a24 (by omega) (by decide) rfl ?_
        refine ev_aload_0 (ev_dt dt_Md_reducedTerm_0 17 rfl) ?_
        refine ev_get (v := .ref (m + 25)) (ev_dt dt_Md_reducedTerm_0 18 rfl) g_Md_83_10 hM.1 rfl ?_
        refine ev_iload_2 (ev_dt dt_Md_reducedTerm_0 19 rfl) ?_
        refine ev_iald (f := A 24) (ev_dt dt_Md_reducedTerm_0 20 rfl) hM.a24 (by omega) (by decide) rfl ?_
        refine ev_icm (ev_dt dt_Md_reducedTerm_0 21 rfl) ?_
        refine ev_ixor (ev_dt dt_Md_reducedTerm_0 22 rfl) rfl ?_
        refine ev_iand (ev_dt dt_Md_reducedTerm_0 23 rfl) rfl ?_
        refine ev_if_ne (tgt := 43) (ev_dt dt_Md_reducedTerm_0 24 rfl) (by decide) (fun g1 => ?_) (fun g1 => ?_)
        · refine ev_iload_1 (ev_dt dt_Md_reducedTerm_0 27 rfl) ?_
          refine ev_bipush (ev_dt dt_Md_reducedTerm_0 28 rfl) bi_7 ?_
          refine ev_icmp_eqT (tgt := 75) (ev_dt dt_Md_reducedTerm_0 29 rfl) (by decide) rfl ?_
          refine ev_ic0 (ev_dt dt_Md_reducedTerm_0 44 rfl) ?_
          refine ev_istore_4 (ev_dt dt_Md_reducedTerm_0 45 rfl) (by decide) rfl ?_
          refine ev_iload_4 (ev_dt dt_Md_reducedTerm_0 46 rfl) ?_
          refine ev_if_eqT (tgt := 108) (ev_dt dt_Md_reducedTerm_0 47 rfl) (by decide) z00 ?_
          refine ev_aload_0 (ev_dt dt_Md_reducedTerm_1 3 rfl) ?_
          refine ev_iload_1 (ev_dt dt_Md_reducedTerm_1 4 rfl) ?_
          refine ev_icm (ev_dt dt_Md_reducedTerm_1 5 rfl) ?_
          refine ev_iload_2 (ev_dt dt_Md_reducedTerm_1 6 rfl) ?_
          refine ev_iload_3 (ev_dt dt_Md_reducedTerm_1 7 rfl) ?_
          refine ev_callV (ev_dt dt_Md_reducedTerm_1 8 rfl) v_Md_183_10 hM.1 [.int (nI 7), .int (-1), .int (nI p), .int (nI q)] rfl np_Md_place rfl (ev_lk_of (j := 1) rfl rfl) (r_pl (d := d + 1) hM hI hF4' ⟨by omega, Or.inr ⟨by omega, rfl, p, q, rfl, rfl, hp, hq, fun e => absurd e (by omega)⟩⟩ (fun h' A' m' r hE hm hr e1 e2 e3 e4 hM' hf' => ev_r1 ?_))
          exact ev_ireturn (ev_dt dt_Md_reducedTerm_1 9 rfl) rfl rfl (kk h' A' m' r (tR_t hI (by omega) (by omega) hp hq epq (fun z => g1 (by rw [← nI_0]; exact z.2)) (fun z => z.1 rfl) hE hm hr e1 e3 e4) hM' hf')
        · refine ev_iload_2 (ev_dt dt_Md_reducedTerm_0 25 rfl) ?_
          exact ev_ireturn (ev_dt dt_Md_reducedTerm_0 26 rfl) rfl rfl (kk h A (F 4) p (tR_p hI e9 hp (Or.inr ⟨rfl, by rw [nI_0]; exact g1⟩)) (by rw [uF_id]; exact hM) fR.rf)
      · refine ev_icmp_neT (tgt := 43) (ev_dt dt_Md_reducedTerm_0 12 rfl) (by decide) (fun z => by rw [nI_eq (by omega) (by omega)] at z; omega) ?_
        refine ev_iload_1 (ev_dt dt_Md_reducedTerm_0 27 rfl) ?_
        refine ev_bipush (ev_dt dt_Md_reducedTerm_0 28 rfl) bi_7 ?_
        refine ev_icmp_eqF (tgt := 75) (ev_dt dt_Md_reducedTerm_0 29 rfl) (by decide) (fun z => by rw [nI_eq (by omega) (by omega)] at z; omega) ?_
        refine ev_aload_0 (ev_dt dt_Md_reducedTerm_0 30 rfl) ?_
        refine ev_get (v := .ref (m + 21)) (ev_dt dt_Md_reducedTerm_0 31 rfl) g_Md_71_10 hM.1 rfl ?_
        refine ev_iload_2 (ev_dt dt_Md_reducedTerm_0 32 rfl) ?_
        refine ev_iald (f := A 20) (ev_dt dt_Md_reducedTerm_0 33 rfl) hM.a20 (by omega) (by decide) rfl ?_
        refine ev_bipush (ev_dt dt_Md_reducedTerm_0 34 rfl) bi_9 ?_
        refine ev_icmp_ne (tgt := 75) (ev_dt dt_Md_reducedTerm_0 35 rfl) (by decide) (fun z1 => ?_) (fun z1 => ?_)
        · refine ev_ic0 (ev_dt dt_Md_reducedTerm_0 44 rfl) ?_
          refine ev_istore_4 (ev_dt dt_Md_reducedTerm_0 45 rfl) (by decide) rfl ?_
          refine ev_iload_4 (ev_dt dt_Md_reducedTerm_0 46 rfl) ?_
          refine ev_if_eqT (tgt := 108) (ev_dt dt_Md_reducedTerm_0 47 rfl) (by decide) z00 ?_
          refine ev_aload_0 (ev_dt dt_Md_reducedTerm_1 3 rfl) ?_
          refine ev_iload_1 (ev_dt dt_Md_reducedTerm_1 4 rfl) ?_
          refine ev_icm (ev_dt dt_Md_reducedTerm_1 5 rfl) ?_
          refine ev_iload_2 (ev_dt dt_Md_reducedTerm_1 6 rfl) ?_
          refine ev_iload_3 (ev_dt dt_Md_reducedTerm_1 7 rfl) ?_
          refine ev_callV (ev_dt dt_Md_reducedTerm_1 8 rfl) v_Md_183_10 hM.1 [.int (nI kd), .int (-1), .int (nI p), .int (nI q)] rfl np_Md_place rfl (ev_lk_of (j := 1) rfl rfl) (r_pl (d := d + 1) hM hI hF4' ⟨by omega, Or.inr ⟨by omega, rfl, p, q, rfl, rfl, hp, hq, fun e => absurd e (by omega)⟩⟩ (fun h' A' m' r hE hm hr e1 e2 e3 e4 hM' hf' => ev_r1 ?_))
          exact ev_ireturn (ev_dt dt_Md_reducedTerm_1 9 rfl) rfl rfl (kk h' A' m' r (tR_t hI (by omega) (by omega) hp hq epq (fun z => e7 z.1) (fun z => z1 z.2.1) hE hm hr e1 e3 e4) hM' hf')
        · refine ev_aload_0 (ev_dt dt_Md_reducedTerm_0 36 rfl) ?_
          refine ev_get (v := .ref (m + 21)) (ev_dt dt_Md_reducedTerm_0 37 rfl) g_Md_71_10 hM.1 rfl ?_
          refine ev_iload_3 (ev_dt dt_Md_reducedTerm_0 38 rfl) ?_
          refine ev_iald (f := A 20) (ev_dt dt_Md_reducedTerm_0 39 rfl) hM.a20 (by omega) (by decide) rfl ?_
          refine ev_bipush (ev_dt dt_Md_reducedTerm_0 40 rfl) bi_9 ?_
          refine ev_icmp_ne (tgt := 75) (ev_dt dt_Md_reducedTerm_0 41 rfl) (by decide) (fun z2 => ?_) (fun z2 => ?_)
          · refine ev_ic0 (ev_dt dt_Md_reducedTerm_0 44 rfl) ?_
            refine ev_istore_4 (ev_dt dt_Md_reducedTerm_0 45 rfl) (by decide) rfl ?_
            refine ev_iload_4 (ev_dt dt_Md_reducedTerm_0 46 rfl) ?_
            refine ev_if_eqT (tgt := 108) (ev_dt dt_Md_reducedTerm_0 47 rfl) (by decide) z00 ?_
            refine ev_aload_0 (ev_dt dt_Md_reducedTerm_1 3 rfl) ?_
            refine ev_iload_1 (ev_dt dt_Md_reducedTerm_1 4 rfl) ?_
            refine ev_icm (ev_dt dt_Md_reducedTerm_1 5 rfl) ?_
            refine ev_iload_2 (ev_dt dt_Md_reducedTerm_1 6 rfl) ?_
            refine ev_iload_3 (ev_dt dt_Md_reducedTerm_1 7 rfl) ?_
            refine ev_callV (ev_dt dt_Md_reducedTerm_1 8 rfl) v_Md_183_10 hM.1 [.int (nI kd), .int (-1), .int (nI p), .int (nI q)] rfl np_Md_place rfl (ev_lk_of (j := 1) rfl rfl) (r_pl (d := d + 1) hM hI hF4' ⟨by omega, Or.inr ⟨by omega, rfl, p, q, rfl, rfl, hp, hq, fun e => absurd e (by omega)⟩⟩ (fun h' A' m' r hE hm hr e1 e2 e3 e4 hM' hf' => ev_r1 ?_))
            exact ev_ireturn (ev_dt dt_Md_reducedTerm_1 9 rfl) rfl rfl (kk h' A' m' r (tR_t hI (by omega) (by omega) hp hq epq (fun z => e7 z.1) (fun z => z2 z.2.2) hE hm hr e1 e3 e4) hM' hf')
          · obtain ⟨a, ha, ea, -, fa, ga⟩ := fq_9 hI hp z1
            obtain ⟨b, hb, eb, -, fb, gb⟩ := fq_9 hI hq z2
            refine ev_ic1 (ev_dt dt_Md_reducedTerm_0 42 rfl) ?_
            refine ev_goto (tgt := 76) (ev_dt dt_Md_reducedTerm_0 43 rfl) (by decide) ?_
            refine ev_istore_4 (ev_dt dt_Md_reducedTerm_0 45 rfl) (by decide) rfl ?_
            refine ev_iload_4 (ev_dt dt_Md_reducedTerm_0 46 rfl) ?_
            refine ev_if_eqF (tgt := 108) (ev_dt dt_Md_reducedTerm_0 47 rfl) (by decide) z10 ?_
            refine ev_aload_0 (ev_dt dt_Md_reducedTerm_0 48 rfl) ?_
            refine ev_aload_0 (ev_dt dt_Md_reducedTerm_0 49 rfl) ?_
            refine ev_iload_1 (ev_dt dt_Md_reducedTerm_0 50 rfl) ?_
            refine ev_icm (ev_dt dt_Md_reducedTerm_0 51 rfl) ?_
            refine ev_aload_0 (ev_dt dt_Md_reducedTerm_0 52 rfl) ?_
            refine ev_get (v := .ref (m + 23)) (ev_dt dt_Md_reducedTerm_0 53 rfl) g_Md_77_10 hM.1 rfl ?_
            refine ev_iload_2 (ev_dt dt_Md_reducedTerm_0 54 rfl) ?_
            refine ev_iald (f := A 22) (ev_dt dt_Md_reducedTerm_0 55 rfl) hM.a22 (by omega) (by decide) rfl ?_
            rw [ea]
            refine ev_aload_0 (ev_dt dt_Md_reducedTerm_0 56 rfl) ?_
            refine ev_get (v := .ref (m + 23)) (ev_dt dt_Md_reducedTerm_0 57 rfl) g_Md_77_10 hM.1 rfl ?_
            refine ev_iload_3 (ev_dt dt_Md_reducedTerm_0 58 rfl) ?_
            refine ev_iald (f := A 22) (ev_dt dt_Md_reducedTerm_0 59 rfl) hM.a22 (by omega) (by decide) rfl ?_
            rw [eb]
            refine ev_callV (ev_dt dt_Md_reducedTerm_1 0 rfl) v_Md_183_10 hM.1 [.int (nI kd), .int (-1), .int (nI a), .int (nI b)] rfl np_Md_place rfl (ev_lk_of (j := 1) rfl rfl) (r_pl (d := d + 1) hM hI hF4' ⟨by omega, Or.inr ⟨by omega, rfl, a, b, rfl, rfl, by omega, by omega, fun e => absurd e (by omega)⟩⟩ (fun h1 A1 m1 r1 hE1 hm1 hr1 e1 e2 e3 e4 hM1 hf1 => ev_r1 ?_))
            refine ev_callV (ev_dt dt_Md_reducedTerm_1 1 rfl) v_Md_187_10 hM1.1 [.int (nI r1)] rfl np_Md_dual rfl (ev_lk_of (j := 1) rfl rfl) (r_dual (d := d) hM1 hE1.2.2.2 (show m1 < 100 by omega) hr1 (fun h2 A2 m2 r hE2 hm2 hr2 hf2' hk2 hM2 hf2 => ev_r1 ?_))
            replace hf2 := hf1.tr hf2
            rw [uF_uF] at hM2
            refine ev_goto (tgt := 116) (ev_dt dt_Md_reducedTerm_1 2 rfl) (by decide) ?_
            exact ev_ireturn (ev_dt dt_Md_reducedTerm_1 9 rfl) rfl rfl (kk h2 A2 m2 r (tR_d hI (by omega) (by omega) hp hq epq e7 ea eb z1 z2 (by omega) (by omega) hE1 hm1 hr1 e1 e3 e4 hE2 hm2 hr2 hf2' hk2) hM2 hf2)
theorem r_emL {x : Int32} {L : List Int32} (hM : Rf E m (uF F 5 L.length) A h) (hs : sg (A 26) 0 L) (hl : L.length < 200) (kk : ∀ h', Rf E m (uF F 5 (L ++ [x]).length) (uA A 26 L.length x) h' → sg ((uA A 26 L.length x) 26) 0 (L ++ [x]) → fR m h h' → Q (.returned none) h' sz k n) : Ev E m_Md_emit d 0 [some (.ref m), some (.int x)] [] h sz k n Q := by
  refine r_emit hM hl (fun h' hM' hf => kk h' ?_ ?_ hf)
  · have e : (L ++ [x]).length = L.length + 1 := by simp
    rw [uF_uF] at hM'
    rw [e]; exact hM'
  · have := sg_snoc (x := x) L 0 hs
    rw [Nat.zero_add] at this
    exact this
theorem r_write {top : Nat} (hM : Rf E m F A h) (hI : okI A (F 4)) (ht : top < F 4) (hF4 : F 4 ≤ 60) (hL : (fm (mT A) top).length ≤ 160) (kk : ∀ h' A', (∀ a, a ≠ 26 → a ≠ 27 → A' a = A a) → sg (A' 26) 0 (fm (mT A) top) → Rf E m (uF F 5 (fm (mT A) top).length) A' h' → fR m h h' → Q (.returned none) h' sz k n) : Ev E m_Md_write (d + 1) 0 [some (.ref m), some (.int (nI top)), none, none, none] [] h sz k n Q := by
  have loop : ∀ len w f L A' h', (ct (mT A) f w).length < len → L ++ ct (mT A) f w = fm (mT A) top → (∀ j, j < w → f j + j < F 4 ∧ A' 27 j = nI (f j)) → sg (A' 26) 0 L → (∀ a, a ≠ 26 → a ≠ 27 → A' a = A a) → Rf E m (uF F 5 L.length) A' h' → fR m h h' → Ev E m_Md_write (d + 1) 14 [some (.ref m), some (.int (nI top)), some (.int (nI w)), none, none] [] h' sz k n Q := by
    intro len
    induction len with
    | zero => intro w f L A' h' hlen; exact absurd hlen (Nat.not_lt_zero _)
    | succ len ih =>
      intro w f L A' h' hlen hG hst hs hA hM' hf'
      cases w with
      | zero =>
        refine ev_iload_2 (ev_dt dt_Md_write_0 10 rfl) ?_
        refine ev_if_leT (tgt := 150) (ev_dt dt_Md_write_0 11 rfl) (by decide) (by decide +kernel) ?_
        have eG : L = fm (mT A) top := by rw [← hG]; exact (List.append_nil L).symm
        rw [eG] at hs hM'
        exact ev_return (ev_dt dt_Md_write_1 24 rfl) rfl (kk h' A' hA hs hM' hf')
      | succ w =>
        obtain ⟨hw, w27⟩ := hst w (by omega)
        have hi : f w < F 4 := by omega
        have hI' : okI A' (F 4) := hI.cg (fun a h1 h2 => hA a (by omega) (by omega))
        have eT : mT A' = mT A := by unfold mT; rw [hA 20 (by decide) (by decide), hA 21 (by decide) (by decide), hA 22 (by decide) (by decide), hA 23 (by decide) (by decide)]
        have hG' : L ++ (fm (mT A') (f w) ++ ct (mT A) f w) = fm (mT A) top := by rw [eT]; exact hG
        have hGl : L.length + ((fm (mT A') (f w)).length + (ct (mT A) f w).length) ≤ 160 := by have := congrArg List.length hG'; rw [List.length_append, List.length_append] at this; omega
        have hlen' : (fm (mT A') (f w)).length + (ct (mT A) f w).length < len + 1 := by have := hlen; unfold ct at this; rw [List.length_append, ← eT] at this; rw [← eT]; exact this
        obtain ⟨kd, hk9, ek⟩ := (hI'.2 (f w) hi).1
        refine ev_iload_2 (ev_dt dt_Md_write_0 10 rfl) ?_
        refine ev_if_leF (tgt := 150) (ev_dt dt_Md_write_0 11 rfl) (by decide) (nI_nle (by omega) (by omega)) ?_
        refine ev_iinc_2 (ev_dt dt_Md_write_0 12 rfl) (nI_dec w) (by decide) rfl ?_
        refine ev_aload_0 (ev_dt dt_Md_write_0 13 rfl) ?_
        refine ev_get (v := .ref (m + 28)) (ev_dt dt_Md_write_0 14 rfl) g_Md_92_10 hM'.1 rfl ?_
        refine ev_iload_2 (ev_dt dt_Md_write_0 15 rfl) ?_
        refine ev_iald (f := A' 27) (ev_dt dt_Md_write_0 16 rfl) hM'.a27 (by omega) (by decide) rfl ?_
        rw [w27]
        refine ev_istore_3 (ev_dt dt_Md_write_0 17 rfl) (by decide) rfl ?_
        refine ev_aload_0 (ev_dt dt_Md_write_0 18 rfl) ?_
        refine ev_get (v := .ref (m + 21)) (ev_dt dt_Md_write_0 19 rfl) g_Md_71_10 hM'.1 rfl ?_
        refine ev_iload_3 (ev_dt dt_Md_write_0 20 rfl) ?_
        refine ev_iald (f := A' 20) (ev_dt dt_Md_write_0 21 rfl) hM'.a20 (by omega) (by decide) rfl ?_
        rw [ek]
        refine ev_istore_4 (ev_dt dt_Md_write_0 22 rfl) (by decide) rfl ?_
        refine ev_aload_0 (ev_dt dt_Md_write_0 23 rfl) ?_
        refine ev_iload_4 (ev_dt dt_Md_write_0 24 rfl) ?_
        have hcs : kd < 2 ∨ kd = 3 ∨ (2 ≤ kd ∧ kd ≠ 3 ∧ kd < 6) ∨ (6 ≤ kd ∧ kd < 9) ∨ kd = 9 := by omega
        rcases hcs with e3 | e3 | e3 | e3 | e3
        · obtain ⟨ff, -⟩ := fq_o hI' hi ek (by omega)
          rw [if_neg (by omega), if_neg (by omega)] at ff
          rw [ff] at hG' hGl hlen'
          simp only [List.length_cons, List.length_nil] at hGl hlen'
          refine ev_callV (ev_dt dt_Md_write_0 25 rfl) v_Md_193_10 hM'.1 [.int (nI kd)] rfl np_Md_emit rfl (ev_lk_of (j := 0) rfl rfl) (r_emL (d := d) (L := L) hM' hs (by omega) (fun he0 hMe0 hse0 hfe0 => ev_r0 ?_))
          replace hfe0 := hf'.tr hfe0
          refine ev_iload_4 (ev_dt dt_Md_write_0 26 rfl) ?_
          refine ev_bipush (ev_dt dt_Md_write_0 27 rfl) bi_6 ?_
          refine ev_icmp_geF (tgt := 59) (ev_dt dt_Md_write_0 28 rfl) (by decide) (nI_ge (by omega) (by omega)) ?_
          refine ev_aload_0 (ev_dt dt_Md_write_0 29 rfl) ?_
          refine ev_aload_0 (ev_dt dt_Md_write_0 30 rfl) ?_
          refine ev_get (v := .ref (m + 22)) (ev_dt dt_Md_write_0 31 rfl) g_Md_74_10 hMe0.1 rfl ?_
          refine ev_iload_3 (ev_dt dt_Md_write_0 32 rfl) ?_
          refine ev_iald (f := A' 21) (ev_dt dt_Md_write_0 33 rfl) hMe0.a21 (by omega) (by decide) rfl ?_
          refine ev_callV (ev_dt dt_Md_write_0 34 rfl) v_Md_193_10 hMe0.1 [.int (A' 21 (f w))] rfl np_Md_emit rfl (ev_lk_of (j := 0) rfl rfl) (r_emL (d := d) (L := (L ++ [nI kd])) hMe0 hse0 (by simp only [List.length_append, List.length_cons, List.length_nil]; omega) (fun he1 hMe1 hse1 hfe1 => ev_r0 ?_))
          replace hfe1 := hfe0.tr hfe1
          refine ev_iload_4 (ev_dt dt_Md_write_0 35 rfl) ?_
          refine ev_ic1 (ev_dt dt_Md_write_0 36 rfl) ?_
          refine ev_icmp_leT (tgt := 82) (ev_dt dt_Md_write_0 37 rfl) (by decide) (nI_le (by omega) (by omega)) ?_
          refine ev_iload_4 (ev_dt dt_Md_write_0 47 rfl) ?_
          refine ev_ic3 (ev_dt dt_Md_write_0 48 rfl) ?_
          refine ev_icmp_neT (tgt := 98) (ev_dt dt_Md_write_0 49 rfl) (by decide) (fun z => by rw [nI_eq (by omega) (by omega)] at z; omega) ?_
          refine ev_iload_4 (ev_dt dt_Md_write_0 56 rfl) ?_
          refine ev_ic5 (ev_dt dt_Md_write_0 57 rfl) ?_
          refine ev_icmp_leT (tgt := 126) (ev_dt dt_Md_write_0 58 rfl) (by decide) (nI_le (by omega) (by omega)) ?_
          refine ev_iload_4 (ev_dt dt_Md_write_1 11 rfl) ?_
          refine ev_ic5 (ev_dt dt_Md_write_1 12 rfl) ?_
          refine ev_icmp_leT (tgt := 147) (ev_dt dt_Md_write_1 13 rfl) (by decide) (nI_le (by omega) (by omega)) ?_
          refine ev_goto (tgt := 14) (ev_dt dt_Md_write_1 23 rfl) (by decide) ?_
          refine ev_fg_3 (ev_fg_4 ?_)
          refine ih w f _ (uA (uA A' 26 L.length (nI kd)) 26 (L ++ [nI kd]).length (A' 21 (f w))) _ (by omega) ?_ (fun j hj => hst j (by omega)) hse1 (fun a a1 a2 => ?_) hMe1 hfe1
          · rw [← hG']; simp only [List.append_assoc, List.cons_append, List.nil_append]
          · rw [uA_a a1, uA_a a1]; exact hA a a1 a2
        · obtain ⟨ff, -⟩ := fq_o hI' hi ek (by omega)
          rw [if_pos e3] at ff
          rw [ff] at hG' hGl hlen'
          simp only [List.length_cons, List.length_nil] at hGl hlen'
          refine ev_callV (ev_dt dt_Md_write_0 25 rfl) v_Md_193_10 hM'.1 [.int (nI kd)] rfl np_Md_emit rfl (ev_lk_of (j := 0) rfl rfl) (r_emL (d := d) (L := L) hM' hs (by omega) (fun he0 hMe0 hse0 hfe0 => ev_r0 ?_))
          replace hfe0 := hf'.tr hfe0
          refine ev_iload_4 (ev_dt dt_Md_write_0 26 rfl) ?_
          refine ev_bipush (ev_dt dt_Md_write_0 27 rfl) bi_6 ?_
          refine ev_icmp_geF (tgt := 59) (ev_dt dt_Md_write_0 28 rfl) (by decide) (nI_ge (by omega) (by omega)) ?_
          refine ev_aload_0 (ev_dt dt_Md_write_0 29 rfl) ?_
          refine ev_aload_0 (ev_dt dt_Md_write_0 30 rfl) ?_
          refine ev_get (v := .ref (m + 22)) (ev_dt dt_Md_write_0 31 rfl) g_Md_74_10 hMe0.1 rfl ?_
          refine ev_iload_3 (ev_dt dt_Md_write_0 32 rfl) ?_
          refine ev_iald (f := A' 21) (ev_dt dt_Md_write_0 33 rfl) hMe0.a21 (by omega) (by decide) rfl ?_
          refine ev_callV (ev_dt dt_Md_write_0 34 rfl) v_Md_193_10 hMe0.1 [.int (A' 21 (f w))] rfl np_Md_emit rfl (ev_lk_of (j := 0) rfl rfl) (r_emL (d := d) (L := (L ++ [nI kd])) hMe0 hse0 (by simp only [List.length_append, List.length_cons, List.length_nil]; omega) (fun he1 hMe1 hse1 hfe1 => ev_r0 ?_))
          replace hfe1 := hfe0.tr hfe1
          refine ev_iload_4 (ev_dt dt_Md_write_0 35 rfl) ?_
          refine ev_ic1 (ev_dt dt_Md_write_0 36 rfl) ?_
          refine ev_icmp_leF (tgt := 82) (ev_dt dt_Md_write_0 37 rfl) (by decide) (nI_ge (by omega) (by omega)) ?_
          refine ev_iload_4 (ev_dt dt_Md_write_0 38 rfl) ?_
          refine ev_bipush (ev_dt dt_Md_write_0 39 rfl) bi_6 ?_
          refine ev_icmp_geF (tgt := 82) (ev_dt dt_Md_write_0 40 rfl) (by decide) (nI_ge (by omega) (by omega)) ?_
          refine ev_aload_0 (ev_dt dt_Md_write_0 41 rfl) ?_
          refine ev_aload_0 (ev_dt dt_Md_write_0 42 rfl) ?_
          refine ev_get (v := .ref (m + 23)) (ev_dt dt_Md_write_0 43 rfl) g_Md_77_10 hMe1.1 rfl ?_
          refine ev_iload_3 (ev_dt dt_Md_write_0 44 rfl) ?_
          refine ev_iald (f := A' 22) (ev_dt dt_Md_write_0 45 rfl) hMe1.a22 (by omega) (by decide) rfl ?_
          refine ev_callV (ev_dt dt_Md_write_0 46 rfl) v_Md_193_10 hMe1.1 [.int (A' 22 (f w))] rfl np_Md_emit rfl (ev_lk_of (j := 0) rfl rfl) (r_emL (d := d) (L := ((L ++ [nI kd]) ++ [(A' 21 (f w))])) hMe1 hse1 (by simp only [List.length_append, List.length_cons, List.length_nil]; omega) (fun he2 hMe2 hse2 hfe2 => ev_r0 ?_))
          replace hfe2 := hfe1.tr hfe2
          refine ev_iload_4 (ev_dt dt_Md_write_0 47 rfl) ?_
          refine ev_ic3 (ev_dt dt_Md_write_0 48 rfl) ?_
          refine ev_icmp_neF (tgt := 98) (ev_dt dt_Md_write_0 49 rfl) (by decide) (by rw [e3]) ?_
          refine ev_aload_0 (ev_dt dt_Md_write_0 50 rfl) ?_
          refine ev_aload_0 (ev_dt dt_Md_write_0 51 rfl) ?_
          refine ev_get (v := .ref (m + 24)) (ev_dt dt_Md_write_0 52 rfl) g_Md_80_10 hMe2.1 rfl ?_
          refine ev_iload_3 (ev_dt dt_Md_write_0 53 rfl) ?_
          refine ev_iald (f := A' 23) (ev_dt dt_Md_write_0 54 rfl) hMe2.a23 (by omega) (by decide) rfl ?_
          refine ev_callV (ev_dt dt_Md_write_0 55 rfl) v_Md_193_10 hMe2.1 [.int (A' 23 (f w))] rfl np_Md_emit rfl (ev_lk_of (j := 0) rfl rfl) (r_emL (d := d) (L := (((L ++ [nI kd]) ++ [(A' 21 (f w))]) ++ [(A' 22 (f w))])) hMe2 hse2 (by simp only [List.length_append, List.length_cons, List.length_nil]; omega) (fun he3 hMe3 hse3 hfe3 => ev_r0 ?_))
          replace hfe3 := hfe2.tr hfe3
          refine ev_iload_4 (ev_dt dt_Md_write_0 56 rfl) ?_
          refine ev_ic5 (ev_dt dt_Md_write_0 57 rfl) ?_
          refine ev_icmp_leT (tgt := 126) (ev_dt dt_Md_write_0 58 rfl) (by decide) (nI_le (by omega) (by omega)) ?_
          refine ev_iload_4 (ev_dt dt_Md_write_1 11 rfl) ?_
          refine ev_ic5 (ev_dt dt_Md_write_1 12 rfl) ?_
          refine ev_icmp_leT (tgt := 147) (ev_dt dt_Md_write_1 13 rfl) (by decide) (nI_le (by omega) (by omega)) ?_
          refine ev_goto (tgt := 14) (ev_dt dt_Md_write_1 23 rfl) (by decide) ?_
          refine ev_fg_3 (ev_fg_4 ?_)
          refine ih w f _ (uA (uA (uA (uA A' 26 L.length (nI kd)) 26 (L ++ [nI kd]).length (A' 21 (f w))) 26 ((L ++ [nI kd]) ++ [(A' 21 (f w))]).length (A' 22 (f w))) 26 (((L ++ [nI kd]) ++ [(A' 21 (f w))]) ++ [(A' 22 (f w))]).length (A' 23 (f w))) _ (by omega) ?_ (fun j hj => hst j (by omega)) hse3 (fun a a1 a2 => ?_) hMe3 hfe3
          · rw [← hG']; simp only [List.append_assoc, List.cons_append, List.nil_append]
          · rw [uA_a a1, uA_a a1, uA_a a1, uA_a a1]; exact hA a a1 a2
        · obtain ⟨ff, -⟩ := fq_o hI' hi ek (by omega)
          rw [if_neg (by omega), if_pos (by omega)] at ff
          rw [ff] at hG' hGl hlen'
          simp only [List.length_cons, List.length_nil] at hGl hlen'
          refine ev_callV (ev_dt dt_Md_write_0 25 rfl) v_Md_193_10 hM'.1 [.int (nI kd)] rfl np_Md_emit rfl (ev_lk_of (j := 0) rfl rfl) (r_emL (d := d) (L := L) hM' hs (by omega) (fun he0 hMe0 hse0 hfe0 => ev_r0 ?_))
          replace hfe0 := hf'.tr hfe0
          refine ev_iload_4 (ev_dt dt_Md_write_0 26 rfl) ?_
          refine ev_bipush (ev_dt dt_Md_write_0 27 rfl) bi_6 ?_
          refine ev_icmp_geF (tgt := 59) (ev_dt dt_Md_write_0 28 rfl) (by decide) (nI_ge (by omega) (by omega)) ?_
          refine ev_aload_0 (ev_dt dt_Md_write_0 29 rfl) ?_
          refine ev_aload_0 (ev_dt dt_Md_write_0 30 rfl) ?_
          refine ev_get (v := .ref (m + 22)) (ev_dt dt_Md_write_0 31 rfl) g_Md_74_10 hMe0.1 rfl ?_
          refine ev_iload_3 (ev_dt dt_Md_write_0 32 rfl) ?_
          refine ev_iald (f := A' 21) (ev_dt dt_Md_write_0 33 rfl) hMe0.a21 (by omega) (by decide) rfl ?_
          refine ev_callV (ev_dt dt_Md_write_0 34 rfl) v_Md_193_10 hMe0.1 [.int (A' 21 (f w))] rfl np_Md_emit rfl (ev_lk_of (j := 0) rfl rfl) (r_emL (d := d) (L := (L ++ [nI kd])) hMe0 hse0 (by simp only [List.length_append, List.length_cons, List.length_nil]; omega) (fun he1 hMe1 hse1 hfe1 => ev_r0 ?_))
          replace hfe1 := hfe0.tr hfe1
          refine ev_iload_4 (ev_dt dt_Md_write_0 35 rfl) ?_
          refine ev_ic1 (ev_dt dt_Md_write_0 36 rfl) ?_
          refine ev_icmp_leF (tgt := 82) (ev_dt dt_Md_write_0 37 rfl) (by decide) (nI_ge (by omega) (by omega)) ?_
          refine ev_iload_4 (ev_dt dt_Md_write_0 38 rfl) ?_
          refine ev_bipush (ev_dt dt_Md_write_0 39 rfl) bi_6 ?_
          refine ev_icmp_geF (tgt := 82) (ev_dt dt_Md_write_0 40 rfl) (by decide) (nI_ge (by omega) (by omega)) ?_
          refine ev_aload_0 (ev_dt dt_Md_write_0 41 rfl) ?_
          refine ev_aload_0 (ev_dt dt_Md_write_0 42 rfl) ?_
          refine ev_get (v := .ref (m + 23)) (ev_dt dt_Md_write_0 43 rfl) g_Md_77_10 hMe1.1 rfl ?_
          refine ev_iload_3 (ev_dt dt_Md_write_0 44 rfl) ?_
          refine ev_iald (f := A' 22) (ev_dt dt_Md_write_0 45 rfl) hMe1.a22 (by omega) (by decide) rfl ?_
          refine ev_callV (ev_dt dt_Md_write_0 46 rfl) v_Md_193_10 hMe1.1 [.int (A' 22 (f w))] rfl np_Md_emit rfl (ev_lk_of (j := 0) rfl rfl) (r_emL (d := d) (L := ((L ++ [nI kd]) ++ [(A' 21 (f w))])) hMe1 hse1 (by simp only [List.length_append, List.length_cons, List.length_nil]; omega) (fun he2 hMe2 hse2 hfe2 => ev_r0 ?_))
          replace hfe2 := hfe1.tr hfe2
          refine ev_iload_4 (ev_dt dt_Md_write_0 47 rfl) ?_
          refine ev_ic3 (ev_dt dt_Md_write_0 48 rfl) ?_
          refine ev_icmp_neT (tgt := 98) (ev_dt dt_Md_write_0 49 rfl) (by decide) (fun z => by rw [nI_eq (by omega) (by omega)] at z; omega) ?_
          refine ev_iload_4 (ev_dt dt_Md_write_0 56 rfl) ?_
          refine ev_ic5 (ev_dt dt_Md_write_0 57 rfl) ?_
          refine ev_icmp_leT (tgt := 126) (ev_dt dt_Md_write_0 58 rfl) (by decide) (nI_le (by omega) (by omega)) ?_
          refine ev_iload_4 (ev_dt dt_Md_write_1 11 rfl) ?_
          refine ev_ic5 (ev_dt dt_Md_write_1 12 rfl) ?_
          refine ev_icmp_leT (tgt := 147) (ev_dt dt_Md_write_1 13 rfl) (by decide) (nI_le (by omega) (by omega)) ?_
          refine ev_goto (tgt := 14) (ev_dt dt_Md_write_1 23 rfl) (by decide) ?_
          refine ev_fg_3 (ev_fg_4 ?_)
          refine ih w f _ (uA (uA (uA A' 26 L.length (nI kd)) 26 (L ++ [nI kd]).length (A' 21 (f w))) 26 ((L ++ [nI kd]) ++ [(A' 21 (f w))]).length (A' 22 (f w))) _ (by omega) ?_ (fun j hj => hst j (by omega)) hse2 (fun a a1 a2 => ?_) hMe2 hfe2
          · rw [← hG']; simp only [List.append_assoc, List.cons_append, List.nil_append]
          · rw [uA_a a1, uA_a a1, uA_a a1]; exact hA a a1 a2
        · obtain ⟨a, b, ha, hb, ea, eb, ff, -⟩ := fq_t hI' hi ek e3.1 e3.2
          rw [ff] at hG' hGl hlen'
          simp only [List.length_cons, List.length_append] at hGl hlen'
          refine ev_callV (ev_dt dt_Md_write_0 25 rfl) v_Md_193_10 hM'.1 [.int (nI kd)] rfl np_Md_emit rfl (ev_lk_of (j := 0) rfl rfl) (r_emL (d := d) (L := L) hM' hs (by omega) (fun he0 hMe0 hse0 hfe0 => ev_r0 ?_))
          replace hfe0 := hf'.tr hfe0
          refine ev_iload_4 (ev_dt dt_Md_write_0 26 rfl) ?_
          refine ev_bipush (ev_dt dt_Md_write_0 27 rfl) bi_6 ?_
          refine ev_icmp_geT (tgt := 59) (ev_dt dt_Md_write_0 28 rfl) (by decide) (nI_le (by omega) (by omega)) ?_
          refine ev_iload_4 (ev_dt dt_Md_write_0 35 rfl) ?_
          refine ev_ic1 (ev_dt dt_Md_write_0 36 rfl) ?_
          refine ev_icmp_leF (tgt := 82) (ev_dt dt_Md_write_0 37 rfl) (by decide) (nI_ge (by omega) (by omega)) ?_
          refine ev_iload_4 (ev_dt dt_Md_write_0 38 rfl) ?_
          refine ev_bipush (ev_dt dt_Md_write_0 39 rfl) bi_6 ?_
          refine ev_icmp_geT (tgt := 82) (ev_dt dt_Md_write_0 40 rfl) (by decide) (nI_le (by omega) (by omega)) ?_
          refine ev_iload_4 (ev_dt dt_Md_write_0 47 rfl) ?_
          refine ev_ic3 (ev_dt dt_Md_write_0 48 rfl) ?_
          refine ev_icmp_neT (tgt := 98) (ev_dt dt_Md_write_0 49 rfl) (by decide) (fun z => by rw [nI_eq (by omega) (by omega)] at z; omega) ?_
          refine ev_iload_4 (ev_dt dt_Md_write_0 56 rfl) ?_
          refine ev_ic5 (ev_dt dt_Md_write_0 57 rfl) ?_
          refine ev_icmp_leF (tgt := 126) (ev_dt dt_Md_write_0 58 rfl) (by decide) (nI_ge (by omega) (by omega)) ?_
          refine ev_iload_4 (ev_dt dt_Md_write_0 59 rfl) ?_
          refine ev_bipush (ev_dt dt_Md_write_1 0 rfl) bi_9 ?_
          refine ev_icmp_geF (tgt := 126) (ev_dt dt_Md_write_1 1 rfl) (by decide) (nI_ge (by omega) (by omega)) ?_
          refine ev_aload_0 (ev_dt dt_Md_write_1 2 rfl) ?_
          refine ev_get (v := .ref (m + 28)) (ev_dt dt_Md_write_1 3 rfl) g_Md_92_10 hMe0.1 rfl ?_
          refine ev_iload_2 (ev_dt dt_Md_write_1 4 rfl) ?_
          refine ev_aload_0 (ev_dt dt_Md_write_1 5 rfl) ?_
          refine ev_get (v := .ref (m + 24)) (ev_dt dt_Md_write_1 6 rfl) g_Md_80_10 hMe0.1 rfl ?_
          refine ev_iload_3 (ev_dt dt_Md_write_1 7 rfl) ?_
          refine ev_iald (f := A' 23) (ev_dt dt_Md_write_1 8 rfl) hMe0.a23 (by omega) (by decide) rfl ?_
          rw [eb]
          refine rf_st27 (ev_dt dt_Md_write_1 9 rfl) hMe0 (by omega) (fun h51 hM51 hf51 => ?_)
          replace hf51 := hfe0.tr hf51
          refine ev_inc1_2 (ev_dt dt_Md_write_1 10 rfl) (by decide) rfl ?_
          refine ev_iload_4 (ev_dt dt_Md_write_1 11 rfl) ?_
          refine ev_ic5 (ev_dt dt_Md_write_1 12 rfl) ?_
          refine ev_icmp_leF (tgt := 147) (ev_dt dt_Md_write_1 13 rfl) (by decide) (nI_ge (by omega) (by omega)) ?_
          refine ev_aload_0 (ev_dt dt_Md_write_1 14 rfl) ?_
          refine ev_get (v := .ref (m + 28)) (ev_dt dt_Md_write_1 15 rfl) g_Md_92_10 hM51.1 rfl ?_
          refine ev_iload_2 (ev_dt dt_Md_write_1 16 rfl) ?_
          refine ev_aload_0 (ev_dt dt_Md_write_1 17 rfl) ?_
          refine ev_get (v := .ref (m + 23)) (ev_dt dt_Md_write_1 18 rfl) g_Md_77_10 hM51.1 rfl ?_
          refine ev_iload_3 (ev_dt dt_Md_write_1 19 rfl) ?_
          refine ev_iald (f := A' 22) (ev_dt dt_Md_write_1 20 rfl) hM51.a22 (by omega) (by decide) rfl ?_
          rw [ea]
          refine rf_st27 (ev_dt dt_Md_write_1 21 rfl) hM51 (by omega) (fun h52 hM52 hf52 => ?_)
          replace hf52 := hf51.tr hf52
          refine ev_inc1_2 (ev_dt dt_Md_write_1 22 rfl) (by decide) rfl ?_
          refine ev_goto (tgt := 14) (ev_dt dt_Md_write_1 23 rfl) (by decide) ?_
          refine ev_fg_3 (ev_fg_4 ?_)
          refine ih (w + 1 + 1) (fun j => if j = w then b else if j = w + 1 then a else f j) _ (uA (uA (uA A' 26 L.length (nI kd)) 27 w (nI b)) 27 (w + 1) (nI a)) _ ?_ ?_ (fun j hj => ?_) hse0 (fun z a1 a2 => ?_) hM52 hf52
          · have ec : ct (mT A) (fun j => if j = w then b else if j = w + 1 then a else f j) (w + 1 + 1) = fm (mT A') a ++ (fm (mT A') b ++ ct (mT A) f w) := by
                rw [eT]
                show fm (mT A) (if w + 1 = w then b else if w + 1 = w + 1 then a else f (w + 1)) ++ (fm (mT A) (if w = w then b else if w = w + 1 then a else f w) ++ ct (mT A) (fun j => if j = w then b else if j = w + 1 then a else f j) w) = _
                rw [if_neg (by omega), if_pos rfl, if_pos rfl, ct_cg w (fun j hj => show (if j = w then b else if j = w + 1 then a else f j) = f j by rw [if_neg (by omega), if_neg (by omega)])]
            rw [ec, List.length_append, List.length_append]; omega
          · have ec : ct (mT A) (fun j => if j = w then b else if j = w + 1 then a else f j) (w + 1 + 1) = fm (mT A') a ++ (fm (mT A') b ++ ct (mT A) f w) := by
                rw [eT]
                show fm (mT A) (if w + 1 = w then b else if w + 1 = w + 1 then a else f (w + 1)) ++ (fm (mT A) (if w = w then b else if w = w + 1 then a else f w) ++ ct (mT A) (fun j => if j = w then b else if j = w + 1 then a else f j) w) = _
                rw [if_neg (by omega), if_pos rfl, if_pos rfl, ct_cg w (fun j hj => show (if j = w then b else if j = w + 1 then a else f j) = f j by rw [if_neg (by omega), if_neg (by omega)])]
            rw [ec, ← hG']; simp only [List.append_assoc, List.cons_append, List.nil_append]
          · show (if j = w then b else if j = w + 1 then a else f j) + j < F 4 ∧ upd (upd (A' 27) w (nI b)) (w + 1) (nI a) j = nI (if j = w then b else if j = w + 1 then a else f j)
            by_cases j1 : j = w
            · subst j1; rw [if_pos rfl, pk_un (by omega), pk_us]; exact ⟨by omega, rfl⟩
            · rw [if_neg j1]
              by_cases j2 : j = w + 1
              · rw [if_pos j2, j2, pk_us]; exact ⟨by omega, rfl⟩
              · rw [if_neg j2, pk_un j2, pk_un j1]; exact hst j (by omega)
          · rw [uA_a a2, uA_a a2, uA_a a1]; exact hA z a1 a2
        · subst e3
          obtain ⟨a, ha, ea, -, ff, -⟩ := fq_9 hI' hi ek
          rw [ff] at hG' hGl hlen'
          simp only [List.length_cons] at hGl hlen'
          refine ev_callV (ev_dt dt_Md_write_0 25 rfl) v_Md_193_10 hM'.1 [.int (nI 9)] rfl np_Md_emit rfl (ev_lk_of (j := 0) rfl rfl) (r_emL (d := d) (L := L) hM' hs (by omega) (fun he0 hMe0 hse0 hfe0 => ev_r0 ?_))
          replace hfe0 := hf'.tr hfe0
          refine ev_iload_4 (ev_dt dt_Md_write_0 26 rfl) ?_
          refine ev_bipush (ev_dt dt_Md_write_0 27 rfl) bi_6 ?_
          refine ev_icmp_geT (tgt := 59) (ev_dt dt_Md_write_0 28 rfl) (by decide) (nI_le (by omega) (by omega)) ?_
          refine ev_iload_4 (ev_dt dt_Md_write_0 35 rfl) ?_
          refine ev_ic1 (ev_dt dt_Md_write_0 36 rfl) ?_
          refine ev_icmp_leF (tgt := 82) (ev_dt dt_Md_write_0 37 rfl) (by decide) (nI_ge (by omega) (by omega)) ?_
          refine ev_iload_4 (ev_dt dt_Md_write_0 38 rfl) ?_
          refine ev_bipush (ev_dt dt_Md_write_0 39 rfl) bi_6 ?_
          refine ev_icmp_geT (tgt := 82) (ev_dt dt_Md_write_0 40 rfl) (by decide) (nI_le (by omega) (by omega)) ?_
          refine ev_iload_4 (ev_dt dt_Md_write_0 47 rfl) ?_
          refine ev_ic3 (ev_dt dt_Md_write_0 48 rfl) ?_
          refine ev_icmp_neT (tgt := 98) (ev_dt dt_Md_write_0 49 rfl) (by decide) (fun z => by rw [nI_eq (by omega) (by omega)] at z; omega) ?_
          refine ev_iload_4 (ev_dt dt_Md_write_0 56 rfl) ?_
          refine ev_ic5 (ev_dt dt_Md_write_0 57 rfl) ?_
          refine ev_icmp_leF (tgt := 126) (ev_dt dt_Md_write_0 58 rfl) (by decide) (nI_ge (by omega) (by omega)) ?_
          refine ev_iload_4 (ev_dt dt_Md_write_0 59 rfl) ?_
          refine ev_bipush (ev_dt dt_Md_write_1 0 rfl) bi_9 ?_
          refine ev_icmp_geT (tgt := 126) (ev_dt dt_Md_write_1 1 rfl) (by decide) (nI_le (by omega) (by omega)) ?_
          refine ev_iload_4 (ev_dt dt_Md_write_1 11 rfl) ?_
          refine ev_ic5 (ev_dt dt_Md_write_1 12 rfl) ?_
          refine ev_icmp_leF (tgt := 147) (ev_dt dt_Md_write_1 13 rfl) (by decide) (nI_ge (by omega) (by omega)) ?_
          refine ev_aload_0 (ev_dt dt_Md_write_1 14 rfl) ?_
          refine ev_get (v := .ref (m + 28)) (ev_dt dt_Md_write_1 15 rfl) g_Md_92_10 hMe0.1 rfl ?_
          refine ev_iload_2 (ev_dt dt_Md_write_1 16 rfl) ?_
          refine ev_aload_0 (ev_dt dt_Md_write_1 17 rfl) ?_
          refine ev_get (v := .ref (m + 23)) (ev_dt dt_Md_write_1 18 rfl) g_Md_77_10 hMe0.1 rfl ?_
          refine ev_iload_3 (ev_dt dt_Md_write_1 19 rfl) ?_
          refine ev_iald (f := A' 22) (ev_dt dt_Md_write_1 20 rfl) hMe0.a22 (by omega) (by decide) rfl ?_
          rw [ea]
          refine rf_st27 (ev_dt dt_Md_write_1 21 rfl) hMe0 (by omega) (fun h53 hM53 hf53 => ?_)
          replace hf53 := hfe0.tr hf53
          refine ev_inc1_2 (ev_dt dt_Md_write_1 22 rfl) (by decide) rfl ?_
          refine ev_goto (tgt := 14) (ev_dt dt_Md_write_1 23 rfl) (by decide) ?_
          refine ev_fg_3 (ev_fg_4 ?_)
          refine ih (w + 1) (fun j => if j = w then a else f j) _ (uA (uA A' 26 L.length (nI 9)) 27 w (nI a)) _ ?_ ?_ (fun j hj => ?_) hse0 (fun z a1 a2 => ?_) hM53 hf53
          · have ec : ct (mT A) (fun j => if j = w then a else f j) (w + 1) = fm (mT A') a ++ ct (mT A) f w := by
                rw [eT]
                show fm (mT A) (if w = w then a else f w) ++ ct (mT A) (fun j => if j = w then a else f j) w = _
                rw [if_pos rfl, ct_cg w (fun j hj => show (if j = w then a else f j) = f j by rw [if_neg (by omega)])]
            rw [ec, List.length_append]; omega
          · have ec : ct (mT A) (fun j => if j = w then a else f j) (w + 1) = fm (mT A') a ++ ct (mT A) f w := by
                rw [eT]
                show fm (mT A) (if w = w then a else f w) ++ ct (mT A) (fun j => if j = w then a else f j) w = _
                rw [if_pos rfl, ct_cg w (fun j hj => show (if j = w then a else f j) = f j by rw [if_neg (by omega)])]
            rw [ec, ← hG']; simp only [List.append_assoc, List.cons_append, List.nil_append]
          · show (if j = w then a else f j) + j < F 4 ∧ upd (A' 27) w (nI a) j = nI (if j = w then a else f j)
            by_cases j1 : j = w
            · subst j1; rw [if_pos rfl, pk_us]; exact ⟨by omega, rfl⟩
            · rw [if_neg j1, pk_un j1]; exact hst j (by omega)
          · rw [uA_a a2, uA_a a1]; exact hA z a1 a2
  refine ev_aload_0 (ev_dt dt_Md_write_0 0 rfl) ?_
  refine ev_ic0 (ev_dt dt_Md_write_0 1 rfl) ?_
  refine rf_pt5 (ev_dt dt_Md_write_0 2 rfl) rfl hM (fun h1 hM1 hf1 => ?_)
  refine ev_aload_0 (ev_dt dt_Md_write_0 3 rfl) ?_
  refine ev_get (v := .ref (m + 28)) (ev_dt dt_Md_write_0 4 rfl) g_Md_92_10 hM1.1 rfl ?_
  refine ev_ic0 (ev_dt dt_Md_write_0 5 rfl) ?_
  refine ev_iload_1 (ev_dt dt_Md_write_0 6 rfl) ?_
  refine rf_st27 (ev_dt dt_Md_write_0 7 rfl) hM1 (by omega) (fun h2 hM2 hf2 => ?_)
  replace hf2 := hf1.tr hf2
  refine ev_ic1 (ev_dt dt_Md_write_0 8 rfl) ?_
  refine ev_istore_2 (ev_dt dt_Md_write_0 9 rfl) (by decide) rfl ?_
  refine loop ((fm (mT A) top).length + 1) 1 (fun _ => top) [] _ _ ?_ ?_ (fun j hj => ?_) trivial (fun a a1 a2 => by rw [uA_a a2]) hM2 hf2
  · show (fm (mT A) top ++ []).length < _; rw [List.append_nil]; omega
  · show [] ++ (fm (mT A) top ++ []) = _; rw [List.append_nil, List.nil_append]
  · obtain rfl : j = 0 := by omega
    exact ⟨ht, show upd (A 27) 0 (nI top) 0 = nI top from pk_us⟩
theorem r_reduce {x : Int32} {nc : Nat} {N : nod} {ed : Nat → Nat → Int32} {zs : Nat → Nat} {cs : Nat → Int32} (hM : Rf E m F A h) (hS : RS A nc N ed zs) (hnc : nc ≤ 24) (hF2 : F 2 = nc) (hK : ∀ i, i < nc → (nK N i < 6 → cs i = nI 1 <<< (nI (nC N i) &&& 31)) ∧ (¬ nK N i < 6 → cs i = cs (nL N i) ||| cs (nQ N i)) ∧ (nK N i = 9 → nQ N i = nL N i)) (hZ : ∀ i, i < nc → (rf N cs i).length ≤ 160) (kx : (∀ i, i < F 2 → x ≠ nI i) → ∀ h', Rf E m (uF F 0 1) A h' → fR m h h' → Q (.returned (some (.int (nI 0)))) h' sz k n) (kk : ∀ i, i < F 2 → x = nI i → ∀ h' A' mm, (∀ a, a < 20 → A' a = A a) → sg (A' 26) 0 (rf N cs i) → Rf E m (uF (uF (uF F 0 0) 4 mm) 5 (rf N cs i).length) A' h' → fR m h h' → Q (.returned (some (.int (nI (rf N cs i).length)))) h' sz k n) : Ev E m_Md_reduce (d + 3) 0 [some (.ref m), some (.int x), none] [] h sz k n Q := by
  refine ev_aload_0 (ev_dt dt_Md_reduce_0 0 rfl) ?_
  refine ev_aload_0 (ev_dt dt_Md_reduce_0 1 rfl) ?_
  refine ev_iload_1 (ev_dt dt_Md_reduce_0 2 rfl) ?_
  refine ev_callV (ev_dt dt_Md_reduce_0 3 rfl) v_Md_116_10 hM.1 [.int x] rfl np_Md_isNode rfl (ev_lk_of (j := 0) rfl rfl) (r_isNode hM (show F 2 ≤ 24 by omega) (fun (hx : ∃ j, j < F 2 ∧ x = nI j) => ev_r1 ?_) (fun (hx : ∀ j, j < F 2 → x ≠ nI j) => ev_r1 ?_))
  · obtain ⟨i, h_i, rfl⟩ := hx
    refine ev_if_eqF (tgt := 13) (ev_dt dt_Md_reduce_0 4 rfl) (by decide) z10 ?_
    refine ev_ic0 (ev_dt dt_Md_reduce_0 5 rfl) ?_
    refine ev_goto (tgt := 14) (ev_dt dt_Md_reduce_0 6 rfl) (by decide) ?_
    refine rf_pt0 (ev_dt dt_Md_reduce_0 8 rfl) rfl hM (fun h1 hM1 hf1 => ?_)
    refine ev_aload_0 (ev_dt dt_Md_reduce_0 9 rfl) ?_
    refine ev_get (v := .int (nI 0)) (ev_dt dt_Md_reduce_0 10 rfl) g_Md_95_10 hM1.1 rfl ?_
    refine ev_if_leT (tgt := 26) (ev_dt dt_Md_reduce_0 11 rfl) (by decide) (by decide +kernel) ?_
    refine ev_aload_0 (ev_dt dt_Md_reduce_0 14 rfl) ?_
    refine ev_ic0 (ev_dt dt_Md_reduce_0 15 rfl) ?_
    refine rf_pt4 (ev_dt dt_Md_reduce_0 16 rfl) rfl hM1 (fun h2 hM2 hf2 => ?_)
    replace hf2 := hf1.tr hf2
    refine ev_ic0 (ev_dt dt_Md_reduce_0 17 rfl) ?_
    refine ev_istore_2 (ev_dt dt_Md_reduce_0 18 rfl) (by decide) rfl ?_
    have loop : ∀ m' j A' h' mm, j + m' = i + 1 → (∀ a, a < 20 → A' a = A a) → okI A' mm → bR A' N cs j mm → mm ≤ 2 * j → Rf E m (uF (uF F 0 0) 4 mm) A' h' → fR m h h' → Ev E m_Md_reduce (d + 3) 33 [some (.ref m), some (.int (nI i)), some (.int (nI j))] [] h' sz k n Q := by
      intro m'
      induction m' with
      | zero =>
        intro j A' h' mm hj hA hI hb hmm hM' hf'
        refine ev_iload_2 (ev_dt dt_Md_reduce_0 19 rfl) ?_
        refine ev_iload_1 (ev_dt dt_Md_reduce_0 20 rfl) ?_
        refine ev_icmp_gtT (tgt := 101) (ev_dt dt_Md_reduce_0 21 rfl) (by decide) (nI_lt (by omega) (by omega)) ?_
        obtain ⟨r, hr, e25, hfm, -⟩ := hb i (by omega)
        refine ev_aload_0 (ev_dt dt_Md_reduce_0 58 rfl) ?_
        refine ev_aload_0 (ev_dt dt_Md_reduce_0 59 rfl) ?_
        refine ev_get (v := .ref (m + 26)) (ev_dt dt_Md_reduce_1 0 rfl) g_Md_86_10 hM'.1 rfl ?_
        refine ev_iload_1 (ev_dt dt_Md_reduce_1 1 rfl) ?_
        refine ev_iald (f := A' 25) (ev_dt dt_Md_reduce_1 2 rfl) hM'.a25 (by omega) (by decide) rfl ?_
        rw [e25]
        refine ev_callV (ev_dt dt_Md_reduce_1 3 rfl) v_Md_202_10 hM'.1 [.int (nI r)] rfl np_Md_write rfl (ev_lk_of (j := 3) rfl rfl) (r_write (d := d + 1) hM' hI hr (show mm ≤ 60 by omega) (by rw [hfm]; exact hZ i (by omega)) (fun h9 A9 hA9 hs9 hM9 hf9 => ev_r0 ?_))
        replace hf9 := hf'.tr hf9
        rw [hfm] at hs9 hM9
        refine ev_aload_0 (ev_dt dt_Md_reduce_1 4 rfl) ?_
        refine ev_get (v := .int (nI ((rf N cs i).length))) (ev_dt dt_Md_reduce_1 5 rfl) g_Md_190_10 hM9.1 rfl ?_
        exact ev_ireturn (ev_dt dt_Md_reduce_1 6 rfl) rfl rfl (kk i (by omega) rfl h9 A9 mm (fun a ha => (hA9 a (by omega) (by omega)).trans (hA a ha)) hs9 hM9 hf9)
      | succ m' ih =>
        intro j A' h' mm hj hA hI hb hmm hM' hf'
        obtain ⟨hkj, hk9, -, hAj, hBj, -⟩ := (hS.low hA).1 j (by omega)
        refine ev_iload_2 (ev_dt dt_Md_reduce_0 19 rfl) ?_
        refine ev_iload_1 (ev_dt dt_Md_reduce_0 20 rfl) ?_
        refine ev_icmp_gtF (tgt := 101) (ev_dt dt_Md_reduce_0 21 rfl) (by decide) (nI_nlt (by omega) (by omega)) ?_
        refine ev_aload_0 (ev_dt dt_Md_reduce_0 22 rfl) ?_
        refine ev_get (v := .ref (m + 26)) (ev_dt dt_Md_reduce_0 23 rfl) g_Md_86_10 hM'.1 rfl ?_
        refine ev_iload_2 (ev_dt dt_Md_reduce_0 24 rfl) ?_
        refine ev_aload_0 (ev_dt dt_Md_reduce_0 25 rfl) ?_
        refine ev_get (v := .ref (m + 3)) (ev_dt dt_Md_reduce_0 26 rfl) g_Md_17_10 hM'.1 rfl ?_
        refine ev_iload_2 (ev_dt dt_Md_reduce_0 27 rfl) ?_
        refine ev_iald (f := A' 2) (ev_dt dt_Md_reduce_0 28 rfl) hM'.a2 (by omega) (by decide) rfl ?_
        rw [hkj]
        refine ev_bipush (ev_dt dt_Md_reduce_0 29 rfl) bi_6 ?_
        by_cases hk6 : nK N j < 6
        · refine ev_icmp_geF (tgt := 62) (ev_dt dt_Md_reduce_0 30 rfl) (by decide) (nI_ge (by omega) (by omega)) ?_
          refine ev_aload_0 (ev_dt dt_Md_reduce_0 31 rfl) ?_
          refine ev_iload_2 (ev_dt dt_Md_reduce_0 32 rfl) ?_
          refine ev_callV (ev_dt dt_Md_reduce_0 33 rfl) v_Md_196_10 hM'.1 [.int (nI j)] rfl np_Md_reducedOrder rfl (ev_lk_of (j := 2) rfl rfl) (r_ro (d := d + 1) hM' (hS.low hA).1 hnc (by omega) hk6 hI (show mm < 100 by omega) (fun h2 A2 m2 r hE hm hr e1 e2 e3 e4 hM2 hf2 => ev_r1 ?_))
          rw [uF_uF] at hM2
          replace hf2 := hf'.tr hf2
          have hm2 : m2 ≤ mm + 1 := hm
          obtain ⟨f1, g1⟩ := ro_fm hE.2.2.2 hr hk6 e1 e2 e3 e4
          refine ev_goto (tgt := 94) (ev_dt dt_Md_reduce_0 34 rfl) (by decide) ?_
          refine rf_st25 (ev_dt dt_Md_reduce_0 55 rfl) hM2 (by omega) (fun h51 hM51 hf51 => ?_)
          replace hf51 := hf2.tr hf51
          refine ev_inc1_2 (ev_dt dt_Md_reduce_0 56 rfl) (by decide) rfl ?_
          refine ev_goto (tgt := 33) (ev_dt dt_Md_reduce_0 57 rfl) (by decide) ?_
          exact ih (j + 1) (uA A2 25 j (nI r)) _ m2 (by omega) (fun a ha => by rw [uA_a (by omega), hE.1 a (by omega)]; exact hA a ha) (show okI A2 m2 from hE.2.2.2) (bR_step hI hb hE hr (by rw [f1, rf_o hk6]) (by rw [g1]; exact ((hK j (by omega)).1 hk6).symm)) (by omega) hM51 hf51
        · refine ev_icmp_geT (tgt := 62) (ev_dt dt_Md_reduce_0 30 rfl) (by decide) (nI_le (by omega) (by omega)) ?_
          obtain ⟨eA, eB, lL, lQ⟩ := hS.2.2.2 j (by omega) hk6
          obtain ⟨p, hp, ep, fp, gp⟩ := hb (nL N j) lL
          obtain ⟨q, hq, eq, fq, gq⟩ := hb (nQ N j) lQ
          refine ev_aload_0 (ev_dt dt_Md_reduce_0 35 rfl) ?_
          refine ev_aload_0 (ev_dt dt_Md_reduce_0 36 rfl) ?_
          refine ev_get (v := .ref (m + 3)) (ev_dt dt_Md_reduce_0 37 rfl) g_Md_17_10 hM'.1 rfl ?_
          refine ev_iload_2 (ev_dt dt_Md_reduce_0 38 rfl) ?_
          refine ev_iald (f := A' 2) (ev_dt dt_Md_reduce_0 39 rfl) hM'.a2 (by omega) (by decide) rfl ?_
          rw [hkj]
          refine ev_aload_0 (ev_dt dt_Md_reduce_0 40 rfl) ?_
          refine ev_get (v := .ref (m + 26)) (ev_dt dt_Md_reduce_0 41 rfl) g_Md_86_10 hM'.1 rfl ?_
          refine ev_aload_0 (ev_dt dt_Md_reduce_0 42 rfl) ?_
          refine ev_get (v := .ref (m + 5)) (ev_dt dt_Md_reduce_0 43 rfl) g_Md_23_10 hM'.1 rfl ?_
          refine ev_iload_2 (ev_dt dt_Md_reduce_0 44 rfl) ?_
          refine ev_iald (f := A' 4) (ev_dt dt_Md_reduce_0 45 rfl) hM'.a4 (by omega) (by decide) rfl ?_
          rw [hAj, eA]
          refine ev_iald (f := A' 25) (ev_dt dt_Md_reduce_0 46 rfl) hM'.a25 (by omega) (by decide) rfl ?_
          rw [ep]
          refine ev_aload_0 (ev_dt dt_Md_reduce_0 47 rfl) ?_
          refine ev_get (v := .ref (m + 26)) (ev_dt dt_Md_reduce_0 48 rfl) g_Md_86_10 hM'.1 rfl ?_
          refine ev_aload_0 (ev_dt dt_Md_reduce_0 49 rfl) ?_
          refine ev_get (v := .ref (m + 6)) (ev_dt dt_Md_reduce_0 50 rfl) g_Md_26_10 hM'.1 rfl ?_
          refine ev_iload_2 (ev_dt dt_Md_reduce_0 51 rfl) ?_
          refine ev_iald (f := A' 5) (ev_dt dt_Md_reduce_0 52 rfl) hM'.a5 (by omega) (by decide) rfl ?_
          rw [hBj, eB]
          refine ev_iald (f := A' 25) (ev_dt dt_Md_reduce_0 53 rfl) hM'.a25 (by omega) (by decide) rfl ?_
          rw [eq]
          refine ev_callV (ev_dt dt_Md_reduce_0 54 rfl) v_Md_199_10 hM'.1 [.int (nI (nK N j)), .int (nI p), .int (nI q)] rfl np_Md_reducedTerm rfl (ev_lk_of (j := 1) rfl rfl) (r_reducedTerm (d := d) hM' hI (show mm + 1 < 100 by omega) (by omega) hk9 hp hq (fun h2 A2 m2 r hR hM2 hf2 => ev_r1 ?_))
          rw [uF_uF] at hM2
          replace hf2 := hf'.tr hf2
          obtain ⟨hE, hm, hr, f1, g1⟩ := hR
          have hm2 : m2 ≤ mm + 2 := hm
          have hcs : A2 24 r = cs j := by
            rw [g1, gp, gq, (hK j (by omega)).2.1 hk6]
            split
            · rename_i e9; rw [(hK j (by omega)).2.2 e9, Int32.or_self]
            · rfl
          refine rf_st25 (ev_dt dt_Md_reduce_0 55 rfl) hM2 (by omega) (fun h52 hM52 hf52 => ?_)
          replace hf52 := hf2.tr hf52
          refine ev_inc1_2 (ev_dt dt_Md_reduce_0 56 rfl) (by decide) rfl ?_
          refine ev_goto (tgt := 33) (ev_dt dt_Md_reduce_0 57 rfl) (by decide) ?_
          exact ih (j + 1) (uA A2 25 j (nI r)) _ m2 (by omega) (fun a ha => by rw [uA_a (by omega), hE.1 a (by omega)]; exact hA a ha) (show okI A2 m2 from hE.2.2.2) (bR_step hI hb hE hr (by rw [f1, gp, gq, fp, fq, rf_t hk6 ⟨lL, lQ⟩]) hcs) (by omega) hM52 hf52
    exact loop (i + 1) 0 A _ 0 (by omega) (fun _ _ => rfl) okI_0 (fun j hj => absurd hj (Nat.not_lt_zero _)) (by omega) hM2 hf2
  · refine ev_if_eqT (tgt := 13) (ev_dt dt_Md_reduce_0 4 rfl) (by decide) z00 ?_
    refine ev_ic1 (ev_dt dt_Md_reduce_0 7 rfl) ?_
    refine rf_pt0 (ev_dt dt_Md_reduce_0 8 rfl) rfl hM (fun h3 hM3 hf3 => ?_)
    refine ev_aload_0 (ev_dt dt_Md_reduce_0 9 rfl) ?_
    refine ev_get (v := .int (nI 1)) (ev_dt dt_Md_reduce_0 10 rfl) g_Md_95_10 hM3.1 rfl ?_
    refine ev_if_leF (tgt := 26) (ev_dt dt_Md_reduce_0 11 rfl) (by decide) (by decide +kernel) ?_
    refine ev_ic0 (ev_dt dt_Md_reduce_0 12 rfl) ?_
    exact ev_ireturn (ev_dt dt_Md_reduce_0 13 rfl) rfl rfl (kx hx h3 hM3 hf3)
end R18
