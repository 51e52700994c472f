/-! What the reference says of two rows (written by gen_r4.py over walk.py). -/
theorem wd_953 : Cond.constantLong "PreferTableModel" 126 9 ∈ lw_tbl := ev_mem 953 (by decide +kernel)
theorem ev_ldc2 {E : ev_E} {M : ev_M} {d pc pc' : Nat} {ls : List (Option Value)} {st : List Value} {h : ev_h} {sz k n : Nat} {Q : ev_Q} {index : Nat} {v : Int64} (hd : ev_d M pc (.ldc2_w index) 3 pc') (hw : Cond.constantLong M.1.cls index v ∈ lw_tbl) (kk : Ev E M d pc' ls (.long v :: st) h sz k n Q) : Ev E M d pc ls st h sz k n Q := by
  obtain ⟨hd, rfl⟩ := hd
  intro p e R s m args below meth c H locs cells slots lsr hC hR hL h1 h2 h3 h4
  exact lv_ldc2 hC.ex hC.cd hC.ow (hC.w hw (ev_gdT rfl) args) hd (kk p e R s m args below meth c H locs cells slots lsr hC hR hL h1 h2 h3 h4)
theorem le_iff {x y : Int64} : lg_cmp x y ≤ 0 ↔ x.toInt ≤ y.toInt := by rw [lg_cmp_le, Int64.le_iff_toInt_le]
/-- the lesser is better -/
def bl (a b : Int) : Fin 4 := if a < b then 1 else if b < a then 2 else 0
/-- the depth of a value in its layers -/
def dpt (l : Int32) : Int := if l < 0 then 9 else l.toInt
/-- what is wanted of the nodes to say what they say -/
def RS (A : Nat → Nat → Int32) (nc : Nat) (N : nod) (ed : Nat → Nat → Int32) (zs : Nat → Nat) : Prop := RN A nc N ed zs ∧ (∀ i, i < nc → nK N i = 5 → okG (ed i) (nR N i)) ∧ (∀ i, i < nc → nK N i = 4 → ∀ v, v < 10 → -1 ≤ nY N i v ∧ nY N i v ≤ nI 5) ∧ ∀ i, i < nc → ¬ nK N i < 6 → nA N i = nI (nL N i) ∧ nB N i = nI (nQ N i) ∧ nL N i < i ∧ nQ N i < i
theorem sv_congr {e e' : Nat → Int32} (h : ∀ v, v < 10 → e v = e' v) (s : Int32) : ∀ v, v ≤ 10 → sv e s v = sv e' s v
  | 0, _ => rfl
  | v + 1, hv => by simp only [sv]; rw [sv_congr h s v (by omega), h v (by omega)]
theorem rn_congr {e e' : Nat → Int32} (h : ∀ v, v < 10 → e v = e' v) (s : Int32) : ∀ r, rn e s r = rn e' s r
  | 0 => rfl
  | r + 1 => by simp only [rn]; rw [rn_congr h s r, sv_congr h _ 10 (Nat.le_refl _)]
theorem so_bl {N : nod} {i : Nat} {x y : Int32} {a b : Int} (hne : x ≠ y) (h1 : pf N i x y = decide (a < b)) (h2 : pf N i y x = decide (b < a)) : so N i x y = bl a b := by
  unfold so bl
  rw [if_neg hne, h1, h2]
  simp only [decide_eq_true_eq]
theorem i_m1 {l : Int32} (h : -1 ≤ l) (h0 : l < 0) : l = -1 := by
  apply Int32.toInt_inj.mp
  rw [Int32.le_iff_toInt_le] at h
  rw [Int32.lt_iff_toInt_lt] at h0
  have e : (-1 : Int32).toInt = -1 := by decide +kernel
  have z : (0 : Int32).toInt = 0 := by decide +kernel
  omega
theorem dpt_lt {a b : Int32} (ha : -1 ≤ a ∧ a ≤ nI 5) (hb : -1 ≤ b ∧ b ≤ nI 5) : (decide (a ≠ -1) && (decide (b = -1) || decide (a < b))) = decide (dpt a < dpt b) := by
  have h5 : (nI 5).toInt = 5 := by decide +kernel
  have hm : ¬ (-1 : Int32) < (-1 : Int32) := by decide +kernel
  have z : (0 : Int32).toInt = 0 := by decide +kernel
  have a5 := Int32.le_iff_toInt_le.mp ha.2
  have b5 := Int32.le_iff_toInt_le.mp hb.2
  unfold dpt
  by_cases h1 : a < 0
  · have e := i_m1 ha.1 h1
    subst e
    rw [if_pos h1]
    have : (9 : Int) < (if b < 0 then 9 else b.toInt) ↔ False := by
      constructor
      · intro q; split at q <;> omega
      · exact False.elim
    simp only [this]
    simp
  · rw [if_neg h1]
    have e1 : decide (a ≠ -1) = true := decide_eq_true (fun e => h1 (by rw [e]; decide +kernel))
    rw [e1, Bool.true_and]
    by_cases h2 : b < 0
    · have e := i_m1 hb.1 h2
      subst e
      rw [if_pos h2, decide_eq_true (p := (-1 : Int32) = -1) rfl, Bool.true_or]
      exact (decide_eq_true (by omega)).symm
    · rw [if_neg h2, decide_eq_false (p := b = -1) (fun e => h2 (by rw [e]; decide +kernel)), Bool.false_or]
      exact decide_eq_decide.mpr Int32.lt_iff_toInt_lt
section R4
variable {E : ev_E} {d : Nat} {h : ev_h} {sz k n : Nat} {Q : ev_Q}
variable {m : Nat} {F : Nat → Nat} {A : Nat → Nat → Int32}
theorem r_byLess {x y : Int64} (kk : Q (.returned (some (.int (nI (bl x.toInt y.toInt).val)))) h sz k n) : Ev E m_Md_byLess d 0 [some (.long x), none, some (.long y), none] [] h sz k n Q := by
  refine ev_lload_0 (ev_dt dt_Md_byLess_0 0 rfl) ?_
  refine ev_lload_2 (ev_dt dt_Md_byLess_0 1 rfl) ?_
  refine ev_lcmp (ev_dt dt_Md_byLess_0 2 rfl) ?_
  refine ev_if_ge (tgt := 10) (ev_dt dt_Md_byLess_0 3 rfl) (by decide) (fun g1 => ?_) (fun g1 => ?_)
  · have g1' : ¬ x.toInt < y.toInt := by have := ge_iff.mp g1; omega
    refine ev_lload_0 (ev_dt dt_Md_byLess_0 6 rfl) ?_
    refine ev_lload_2 (ev_dt dt_Md_byLess_0 7 rfl) ?_
    refine ev_lcmp (ev_dt dt_Md_byLess_0 8 rfl) ?_
    refine ev_if_le (tgt := 20) (ev_dt dt_Md_byLess_0 9 rfl) (by decide) (fun g2 => ?_) (fun g2 => ?_)
    · refine ev_ic0 (ev_dt dt_Md_byLess_0 12 rfl) ?_
      rw [bl, if_neg g1', if_neg (by have := le_iff.mp g2; omega)] at kk
      exact ev_ireturn (ev_dt dt_Md_byLess_0 13 rfl) rfl rfl kk
    · refine ev_ic2 (ev_dt dt_Md_byLess_0 10 rfl) ?_
      refine ev_goto (tgt := 21) (ev_dt dt_Md_byLess_0 11 rfl) (by decide) ?_
      rw [bl, if_neg g1', if_pos (by have := Int.not_le.mp (fun e => g2 (le_iff.mpr e)); omega)] at kk
      exact ev_ireturn (ev_dt dt_Md_byLess_0 13 rfl) rfl rfl kk
  · refine ev_ic1 (ev_dt dt_Md_byLess_0 4 rfl) ?_
    refine ev_goto (tgt := 21) (ev_dt dt_Md_byLess_0 5 rfl) (by decide) ?_
    rw [bl, if_pos (by have := Int.not_le.mp (fun e => g1 (ge_iff.mpr e)); omega)] at kk
    exact ev_ireturn (ev_dt dt_Md_byLess_0 13 rfl) rfl rfl kk
theorem r_distance {i : Nat} {x : Int32} {nc : Nat} {N : nod} {ed : Nat → Nat → Int32} {zs : Nat → Nat} (hM : Rf E m F A h) (hS : RS A nc N ed zs) (hnc : nc ≤ 24) (hi : i < nc) (kk : ∀ r : Int64, r.toInt = dst (nA N i).toInt (if nK N i = 2 then nA N i else nB N i).toInt x.toInt → Q (.returned (some (.long r))) h sz k n) : Ev E m_Md_distance d 0 [some (.ref m), some (.int (nI i)), some (.int x), none, none, none, none] [] h sz k n Q := by
  obtain ⟨hk, hk9, -, hA, hB, -⟩ := hS.1 i hi
  refine ev_aload_0 (ev_dt dt_Md_distance_0 0 rfl) ?_
  refine ev_get (v := .ref (m + 5)) (ev_dt dt_Md_distance_0 1 rfl) g_Md_23_10 hM.1 rfl ?_
  refine ev_iload_1 (ev_dt dt_Md_distance_0 2 rfl) ?_
  refine ev_iald (f := A 4) (ev_dt dt_Md_distance_0 3 rfl) hM.a4 (by omega) (by decide) rfl ?_
  rw [hA]
  refine ev_i2l (ev_dt dt_Md_distance_0 4 rfl) rfl ?_
  refine ev_lstore_3 (ev_dt dt_Md_distance_0 5 rfl) (by decide) rfl ?_
  refine ev_aload_0 (ev_dt dt_Md_distance_0 6 rfl) ?_
  refine ev_get (v := .ref (m + 3)) (ev_dt dt_Md_distance_0 7 rfl) g_Md_17_10 hM.1 rfl ?_
  refine ev_iload_1 (ev_dt dt_Md_distance_0 8 rfl) ?_
  refine ev_iald (f := A 2) (ev_dt dt_Md_distance_0 9 rfl) hM.a2 (by omega) (by decide) rfl ?_
  rw [hk]
  refine ev_ic2 (ev_dt dt_Md_distance_0 10 rfl) ?_
  refine ev_icmp_ne (tgt := 28) (ev_dt dt_Md_distance_0 11 rfl) (by decide) (fun g0 => ?_) (fun g0 => ?_)
  · refine ev_aload_0 (ev_dt dt_Md_distance_0 18 rfl) ?_
    refine ev_get (v := .ref (m + 6)) (ev_dt dt_Md_distance_0 19 rfl) g_Md_26_10 hM.1 rfl ?_
    refine ev_iload_1 (ev_dt dt_Md_distance_0 20 rfl) ?_
    refine ev_iald (f := A 5) (ev_dt dt_Md_distance_0 21 rfl) hM.a5 (by omega) (by decide) rfl ?_
    rw [hB]
    have hHi : (if nK N i = 2 then nA N i else nB N i) = nB N i := if_neg (fun e => g0 (by rw [e]))
    refine ev_i2l (ev_dt dt_Md_distance_0 22 rfl) rfl ?_
    refine ev_lstore_5 (ev_dt dt_Md_distance_0 23 rfl) (by decide) rfl ?_
    refine ev_iload_2 (ev_dt dt_Md_distance_0 24 rfl) ?_
    refine ev_i2l (ev_dt dt_Md_distance_0 25 rfl) rfl ?_
    refine ev_lload_3 (ev_dt dt_Md_distance_0 26 rfl) ?_
    refine ev_lcmp (ev_dt dt_Md_distance_0 27 rfl) ?_
    refine ev_if_ge (tgt := 51) (ev_dt dt_Md_distance_0 28 rfl) (by decide) (fun g1 => ?_) (fun g1 => ?_)
    · have g1' : ¬ x.toInt < (nA N i).toInt := by have := ge_iff.mp g1; rw [Int32.toInt_toInt64, Int32.toInt_toInt64] at this; omega
      refine ev_iload_2 (ev_dt dt_Md_distance_0 34 rfl) ?_
      refine ev_i2l (ev_dt dt_Md_distance_0 35 rfl) rfl ?_
      refine ev_lload_5 (ev_dt dt_Md_distance_0 36 rfl) ?_
      refine ev_lcmp (ev_dt dt_Md_distance_0 37 rfl) ?_
      refine ev_if_le (tgt := 67) (ev_dt dt_Md_distance_0 38 rfl) (by decide) (fun g2 => ?_) (fun g2 => ?_)
      · have g2' : ¬ (nB N i).toInt < x.toInt := by have := le_iff.mp g2; rw [Int32.toInt_toInt64, Int32.toInt_toInt64] at this; omega
        refine ev_lconst (ev_dt dt_Md_distance_0 44 rfl) rfl ?_
        exact ev_lreturn (ev_dt dt_Md_distance_0 45 rfl) rfl (kk _ (by rw [hHi, dst, if_neg g1', if_neg g2']; decide +kernel))
      · have g2' : (nB N i).toInt < x.toInt := by have := Int.not_le.mp (fun e => g2 (le_iff.mpr e)); rw [Int32.toInt_toInt64, Int32.toInt_toInt64] at this; omega
        refine ev_iload_2 (ev_dt dt_Md_distance_0 39 rfl) ?_
        refine ev_i2l (ev_dt dt_Md_distance_0 40 rfl) rfl ?_
        refine ev_lload_5 (ev_dt dt_Md_distance_0 41 rfl) ?_
        refine ev_lsub (ev_dt dt_Md_distance_0 42 rfl) rfl ?_
        refine ev_goto (tgt := 68) (ev_dt dt_Md_distance_0 43 rfl) (by decide) ?_
        exact ev_lreturn (ev_dt dt_Md_distance_0 45 rfl) rfl (kk _ (by rw [hHi, l_sub, dst, if_neg g1', if_pos g2']))
    · have g1' : x.toInt < (nA N i).toInt := by have := Int.not_le.mp (fun e => g1 (ge_iff.mpr e)); rw [Int32.toInt_toInt64, Int32.toInt_toInt64] at this; omega
      refine ev_lload_3 (ev_dt dt_Md_distance_0 29 rfl) ?_
      refine ev_iload_2 (ev_dt dt_Md_distance_0 30 rfl) ?_
      refine ev_i2l (ev_dt dt_Md_distance_0 31 rfl) rfl ?_
      refine ev_lsub (ev_dt dt_Md_distance_0 32 rfl) rfl ?_
      refine ev_goto (tgt := 68) (ev_dt dt_Md_distance_0 33 rfl) (by decide) ?_
      exact ev_lreturn (ev_dt dt_Md_distance_0 45 rfl) rfl (kk _ (by rw [l_sub, dst, if_pos g1']))
  · refine ev_aload_0 (ev_dt dt_Md_distance_0 12 rfl) ?_
    refine ev_get (v := .ref (m + 5)) (ev_dt dt_Md_distance_0 13 rfl) g_Md_23_10 hM.1 rfl ?_
    refine ev_iload_1 (ev_dt dt_Md_distance_0 14 rfl) ?_
    refine ev_iald (f := A 4) (ev_dt dt_Md_distance_0 15 rfl) hM.a4 (by omega) (by decide) rfl ?_
    rw [hA]
    have hHi : (if nK N i = 2 then nA N i else nB N i) = nA N i := if_pos ((nI_eq (by omega) (by omega)).mp g0)
    refine ev_i2l (ev_dt dt_Md_distance_0 16 rfl) rfl ?_
    refine ev_goto (tgt := 35) (ev_dt dt_Md_distance_0 17 rfl) (by decide) ?_
    refine ev_lstore_5 (ev_dt dt_Md_distance_0 23 rfl) (by decide) rfl ?_
    refine ev_iload_2 (ev_dt dt_Md_distance_0 24 rfl) ?_
    refine ev_i2l (ev_dt dt_Md_distance_0 25 rfl) rfl ?_
    refine ev_lload_3 (ev_dt dt_Md_distance_0 26 rfl) ?_
    refine ev_lcmp (ev_dt dt_Md_distance_0 27 rfl) ?_
    refine ev_if_ge (tgt := 51) (ev_dt dt_Md_distance_0 28 rfl) (by decide) (fun g1 => ?_) (fun g1 => ?_)
    · have g1' : ¬ x.toInt < (nA N i).toInt := by have := ge_iff.mp g1; rw [Int32.toInt_toInt64, Int32.toInt_toInt64] at this; omega
      refine ev_iload_2 (ev_dt dt_Md_distance_0 34 rfl) ?_
      refine ev_i2l (ev_dt dt_Md_distance_0 35 rfl) rfl ?_
      refine ev_lload_5 (ev_dt dt_Md_distance_0 36 rfl) ?_
      refine ev_lcmp (ev_dt dt_Md_distance_0 37 rfl) ?_
      refine ev_if_le (tgt := 67) (ev_dt dt_Md_distance_0 38 rfl) (by decide) (fun g2 => ?_) (fun g2 => ?_)
      · have g2' : ¬ (nA N i).toInt < x.toInt := by have := le_iff.mp g2; rw [Int32.toInt_toInt64, Int32.toInt_toInt64] at this; omega
        refine ev_lconst (ev_dt dt_Md_distance_0 44 rfl) rfl ?_
        exact ev_lreturn (ev_dt dt_Md_distance_0 45 rfl) rfl (kk _ (by rw [hHi, dst, if_neg g1', if_neg g2']; decide +kernel))
      · have g2' : (nA N i).toInt < x.toInt := by have := Int.not_le.mp (fun e => g2 (le_iff.mpr e)); rw [Int32.toInt_toInt64, Int32.toInt_toInt64] at this; omega
        refine ev_iload_2 (ev_dt dt_Md_distance_0 39 rfl) ?_
        refine ev_i2l (ev_dt dt_Md_distance_0 40 rfl) rfl ?_
        refine ev_lload_5 (ev_dt dt_Md_distance_0 41 rfl) ?_
        refine ev_lsub (ev_dt dt_Md_distance_0 42 rfl) rfl ?_
        refine ev_goto (tgt := 68) (ev_dt dt_Md_distance_0 43 rfl) (by decide) ?_
        exact ev_lreturn (ev_dt dt_Md_distance_0 45 rfl) rfl (kk _ (by rw [hHi, l_sub, dst, if_neg g1', if_pos g2']))
    · have g1' : x.toInt < (nA N i).toInt := by have := Int.not_le.mp (fun e => g1 (ge_iff.mpr e)); rw [Int32.toInt_toInt64, Int32.toInt_toInt64] at this; omega
      refine ev_lload_3 (ev_dt dt_Md_distance_0 29 rfl) ?_
      refine ev_iload_2 (ev_dt dt_Md_distance_0 30 rfl) ?_
      refine ev_i2l (ev_dt dt_Md_distance_0 31 rfl) rfl ?_
      refine ev_lsub (ev_dt dt_Md_distance_0 32 rfl) rfl ?_
      refine ev_goto (tgt := 68) (ev_dt dt_Md_distance_0 33 rfl) (by decide) ?_
      exact ev_lreturn (ev_dt dt_Md_distance_0 45 rfl) rfl (kk _ (by rw [l_sub, dst, if_pos g1']))
theorem gr_nV {v : Nat} (hv : v < 10) : gr (nI v) = true := by
  unfold gr
  rw [Bool.and_eq_true]
  exact ⟨decide_eq_true (nI_pos' (by omega)), decide_eq_true (nI_lt hv (by omega))⟩
theorem r_depth {i : Nat} {x : Int32} {nc : Nat} {N : nod} {ed : Nat → Nat → Int32} {zs : Nat → Nat} (hM : Rf E m F A h) (hS : RS A nc N ed zs) (hnc : nc ≤ 24) (hi : i < nc) (hk4 : nK N i = 4) (kk : ∀ r : Int64, r.toInt = dpt (lyr (nY N i) x) → Q (.returned (some (.long r))) h sz k n) : Ev E m_Md_depth (d + 1) 0 [some (.ref m), some (.int (nI i)), some (.int x), none] [] h sz k n Q := by
  obtain ⟨-, -, -, -, -, -, -, hY, -⟩ := hS.1 i hi
  refine ev_iload_2 (ev_dt dt_Md_depth_0 0 rfl) ?_
  refine ev_callS (ev_dt dt_Md_depth_0 1 rfl) s_Md_119 [.int x] rfl np_Md_isPlain rfl (ev_lk_of (j := 0) rfl rfl) (r_isPlain (fun hg => ev_r1 ?_) (fun hg => ev_r1 ?_))
  · obtain ⟨v, hv, rfl⟩ := hg
    refine ev_if_eqF (tgt := 32) (ev_dt dt_Md_depth_0 2 rfl) (by decide) z10 ?_
    refine ev_aload_0 (ev_dt dt_Md_depth_0 3 rfl) ?_
    refine ev_get (v := .ref (m + 8)) (ev_dt dt_Md_depth_0 4 rfl) g_Md_32_10 hM.1 rfl ?_
    refine ev_bipush (ev_dt dt_Md_depth_0 5 rfl) bi_10 ?_
    refine ev_iload_1 (ev_dt dt_Md_depth_0 6 rfl) ?_
    refine ev_imul (ev_dt dt_Md_depth_0 7 rfl) (nI_mul _ _) ?_
    refine ev_iload_2 (ev_dt dt_Md_depth_0 8 rfl) ?_
    refine ev_callS (ev_dt dt_Md_depth_0 9 rfl) s_Md_119 [.int (nI v)] rfl np_Md_isPlain rfl (ev_lk_of (j := 0) rfl rfl) (r_isPlain (fun hg2 => ev_r1 ?_) (fun hg2 => absurd rfl (hg2 v hv)))
    refine ev_if_eqF (tgt := 26) (ev_dt dt_Md_depth_0 10 rfl) (by decide) z10 ?_
    refine ev_iload_2 (ev_dt dt_Md_depth_0 11 rfl) ?_
    refine ev_goto (tgt := 27) (ev_dt dt_Md_depth_0 12 rfl) (by decide) ?_
    refine ev_addn (ev_dt dt_Md_depth_0 14 rfl) ?_
    refine ev_iald (f := A 7) (ev_dt dt_Md_depth_0 15 rfl) hM.a7 (by omega) (by decide) rfl ?_
    rw [hY hk4 v hv]
    have hly : lyr (nY N i) (nI v) = nY N i v := by unfold lyr; rw [if_pos (gr_nV hv), nI_clamp (by omega)]
    refine ev_goto (tgt := 33) (ev_dt dt_Md_depth_0 16 rfl) (by decide) ?_
    refine ev_istore_3 (ev_dt dt_Md_depth_0 18 rfl) (by decide) rfl ?_
    refine ev_iload_3 (ev_dt dt_Md_depth_0 19 rfl) ?_
    refine ev_if_ge (tgt := 44) (ev_dt dt_Md_depth_0 20 rfl) (by decide) (fun g1 => ?_) (fun g1 => ?_)
    · refine ev_iload_3 (ev_dt dt_Md_depth_0 23 rfl) ?_
      refine ev_i2l (ev_dt dt_Md_depth_0 24 rfl) rfl ?_
      exact ev_lreturn (ev_dt dt_Md_depth_0 25 rfl) rfl (kk _ (by rw [hly, dpt, if_neg (Int32.not_lt.mpr g1), Int32.toInt_toInt64]))
    · refine ev_ldc2 (ev_dt dt_Md_depth_0 21 rfl) wd_953 ?_
      refine ev_goto (tgt := 46) (ev_dt dt_Md_depth_0 22 rfl) (by decide) ?_
      exact ev_lreturn (ev_dt dt_Md_depth_0 25 rfl) rfl (kk _ (by rw [hly, dpt, if_pos (Int32.not_le.mp g1)]; decide +kernel))
  · have hly : lyr (nY N i) x = -1 := by unfold lyr; rw [if_neg (fun e => hg _ (gr_of e).1 (gr_of e).2)]
    refine ev_if_eqT (tgt := 32) (ev_dt dt_Md_depth_0 2 rfl) (by decide) z00 ?_
    refine ev_icm (ev_dt dt_Md_depth_0 17 rfl) ?_
    refine ev_istore_3 (ev_dt dt_Md_depth_0 18 rfl) (by decide) rfl ?_
    refine ev_iload_3 (ev_dt dt_Md_depth_0 19 rfl) ?_
    refine ev_if_geF (tgt := 44) (ev_dt dt_Md_depth_0 20 rfl) (by decide) (by decide +kernel) ?_
    refine ev_ldc2 (ev_dt dt_Md_depth_0 21 rfl) wd_953 ?_
    refine ev_goto (tgt := 46) (ev_dt dt_Md_depth_0 22 rfl) (by decide) ?_
    exact ev_lreturn (ev_dt dt_Md_depth_0 25 rfl) rfl (kk _ (by rw [hly]; decide +kernel))
theorem r_graph {i : Nat} {x y : Int32} {nc : Nat} {N : nod} {ed : Nat → Nat → Int32} {zs : Nat → Nat} (hM : Rf E m F A h) (hS : RS A nc N ed zs) (hnc : nc ≤ 24) (hi : i < nc) (hk5 : nK N i = 5) (hne : x ≠ y) (kk : Q (.returned (some (.int (nI (so N i x y).val)))) h sz k n) : Ev E m_Md_graph (d + 1) 0 [some (.ref m), some (.int (nI i)), some (.int x), some (.int y)] [] h sz k n Q := by
  obtain ⟨-, -, -, -, -, -, -, -, he⟩ := hS.1 i hi
  have hG := hS.2.1 i hi hk5
  have hrn : ∀ v w, v < 10 → w < 10 → bt (rn (fun v => A 8 (10 * i + v)) (A 8 (10 * i + v)) 10) w = bt (nR N i v) w := fun v w hv hw => by rw [rn_congr (fun u hu => he hk5 u hu), he hk5 v hv]; exact rn_eq hG hv hw
  have hpf : ∀ u v, pf N i u v = (gr u && gr v && bt (nR N i u.toNatClampNeg) v.toNatClampNeg) := fun u v => by unfold pf; rw [hk5]; rfl
  refine ev_iload_2 (ev_dt dt_Md_graph_0 0 rfl) ?_
  refine ev_callS (ev_dt dt_Md_graph_0 1 rfl) s_Md_119 [.int x] rfl np_Md_isPlain rfl (ev_lk_of (j := 0) rfl rfl) (r_isPlain (fun hg => ev_r1 ?_) (fun hg => ev_r1 ?_))
  · obtain ⟨v, hv, rfl⟩ := hg
    refine ev_if_eqF (tgt := 14) (ev_dt dt_Md_graph_0 2 rfl) (by decide) z10 ?_
    refine ev_iload_3 (ev_dt dt_Md_graph_0 3 rfl) ?_
    refine ev_callS (ev_dt dt_Md_graph_0 4 rfl) s_Md_119 [.int y] rfl np_Md_isPlain rfl (ev_lk_of (j := 0) rfl rfl) (r_isPlain (fun hg2 => ev_r1 ?_) (fun hg2 => ev_r1 ?_))
    · obtain ⟨u, hu, rfl⟩ := hg2
      refine ev_if_neT (tgt := 16) (ev_dt dt_Md_graph_0 5 rfl) (by decide) z10 ?_
      refine ev_aload_0 (ev_dt dt_Md_graph_0 8 rfl) ?_
      refine ev_iload_1 (ev_dt dt_Md_graph_0 9 rfl) ?_
      refine ev_iload_2 (ev_dt dt_Md_graph_0 10 rfl) ?_
      have p1 : pf N i (nI v) (nI u) = bt (nR N i v) u := by rw [hpf, gr_nV hv, gr_nV hu, nI_clamp (by omega), nI_clamp (by omega)]; rfl
      have p2 : pf N i (nI u) (nI v) = bt (nR N i u) v := by rw [hpf, gr_nV hv, gr_nV hu, nI_clamp (by omega), nI_clamp (by omega)]; rfl
      rw [so, if_neg hne, p1, p2] at kk
      refine ev_callV (ev_dt dt_Md_graph_0 11 rfl) v_Md_122_10 hM.1 [.int (nI i), .int (nI v)] rfl np_Md_reached rfl (ev_lk_of (j := 3) rfl rfl) (r_reached hM (by omega) hv (ev_r1 ?_))
      refine ev_iload_3 (ev_dt dt_Md_graph_0 12 rfl) ?_
      refine ev_ishr (ev_dt dt_Md_graph_0 13 rfl) rfl ?_
      refine ev_ic1 (ev_dt dt_Md_graph_0 14 rfl) ?_
      refine ev_iand (ev_dt dt_Md_graph_0 15 rfl) rfl ?_
      refine ev_ic1 (ev_dt dt_Md_graph_0 16 rfl) ?_
      refine ev_icmp_ne (tgt := 34) (ev_dt dt_Md_graph_0 17 rfl) (by decide) (fun g1 => ?_) (fun g1 => ?_)
      · rw [if_neg (fun e => g1 ((q_tst (by omega)).mpr ((hrn v u hv hu).trans e)))] at kk
        refine ev_aload_0 (ev_dt dt_Md_graph_0 20 rfl) ?_
        refine ev_iload_1 (ev_dt dt_Md_graph_0 21 rfl) ?_
        refine ev_iload_3 (ev_dt dt_Md_graph_0 22 rfl) ?_
        refine ev_callV (ev_dt dt_Md_graph_0 23 rfl) v_Md_122_10 hM.1 [.int (nI i), .int (nI u)] rfl np_Md_reached rfl (ev_lk_of (j := 3) rfl rfl) (r_reached hM (by omega) hu (ev_r1 ?_))
        refine ev_iload_2 (ev_dt dt_Md_graph_0 24 rfl) ?_
        refine ev_ishr (ev_dt dt_Md_graph_0 25 rfl) rfl ?_
        refine ev_ic1 (ev_dt dt_Md_graph_0 26 rfl) ?_
        refine ev_iand (ev_dt dt_Md_graph_0 27 rfl) rfl ?_
        refine ev_ic1 (ev_dt dt_Md_graph_0 28 rfl) ?_
        refine ev_icmp_ne (tgt := 52) (ev_dt dt_Md_graph_0 29 rfl) (by decide) (fun g2 => ?_) (fun g2 => ?_)
        · rw [if_neg (fun e => g2 ((q_tst (by omega)).mpr ((hrn u v hu hv).trans e)))] at kk
          refine ev_ic0 (ev_dt dt_Md_graph_0 32 rfl) ?_
          exact ev_ireturn (ev_dt dt_Md_graph_0 33 rfl) rfl rfl kk
        · rw [if_pos ((hrn u v hu hv).symm.trans ((q_tst (by omega)).mp g2))] at kk
          refine ev_ic2 (ev_dt dt_Md_graph_0 30 rfl) ?_
          refine ev_goto (tgt := 53) (ev_dt dt_Md_graph_0 31 rfl) (by decide) ?_
          exact ev_ireturn (ev_dt dt_Md_graph_0 33 rfl) rfl rfl kk
      · rw [if_pos ((hrn v u hv hu).symm.trans ((q_tst (by omega)).mp g1))] at kk
        refine ev_ic1 (ev_dt dt_Md_graph_0 18 rfl) ?_
        refine ev_goto (tgt := 53) (ev_dt dt_Md_graph_0 19 rfl) (by decide) ?_
        exact ev_ireturn (ev_dt dt_Md_graph_0 33 rfl) rfl rfl kk
    · have hy : gr y = false := Bool.eq_false_iff.mpr (fun e => hg2 _ (gr_of e).1 (gr_of e).2)
      rw [so, if_neg hne, hpf, hpf, hy, Bool.and_false, Bool.false_and, Bool.false_and, Bool.false_and] at kk
      refine ev_if_neF (tgt := 16) (ev_dt dt_Md_graph_0 5 rfl) (by decide) z00 ?_
      refine ev_ic0 (ev_dt dt_Md_graph_0 6 rfl) ?_
      exact ev_ireturn (ev_dt dt_Md_graph_0 7 rfl) rfl rfl kk
  · have hx : gr x = false := Bool.eq_false_iff.mpr (fun e => hg _ (gr_of e).1 (gr_of e).2)
    rw [so, if_neg hne, hpf, hpf, hx, Bool.and_false, Bool.false_and, Bool.false_and, Bool.false_and] at kk
    refine ev_if_eqT (tgt := 14) (ev_dt dt_Md_graph_0 2 rfl) (by decide) z00 ?_
    refine ev_ic0 (ev_dt dt_Md_graph_0 6 rfl) ?_
    exact ev_ireturn (ev_dt dt_Md_graph_0 7 rfl) rfl rfl kk
theorem lyr_b {f : Nat → Int32} {x : Int32} (h : ∀ v, v < 10 → -1 ≤ f v ∧ f v ≤ nI 5) : -1 ≤ lyr f x ∧ lyr f x ≤ nI 5 := by
  unfold lyr
  split
  · rename_i hg
    exact h _ (gr_of hg).1
  · exact ⟨Int32.le_refl _, by decide +kernel⟩
theorem r_ordered {i : Nat} {x y : Int32} {nc : Nat} {N : nod} {ed : Nat → Nat → Int32} {zs : Nat → Nat} (hM : Rf E m F A h) (hS : RS A nc N ed zs) (hnc : nc ≤ 24) (hi : i < nc) (hk6 : nK N i < 6) (kk : Q (.returned (some (.int (nI (so N i x y).val)))) h sz k n) : Ev E m_Md_ordered (d + 2) 0 [some (.ref m), some (.int (nI i)), some (.int x), some (.int y)] [] h sz k n Q := by
  refine ev_iload_2 (ev_dt dt_Md_ordered_0 0 rfl) ?_
  refine ev_iload_3 (ev_dt dt_Md_ordered_0 1 rfl) ?_
  refine ev_icmp_ne (tgt := 7) (ev_dt dt_Md_ordered_0 2 rfl) (by decide) (fun g1 => ?_) (fun g1 => ?_)
  · refine ev_aload_0 (ev_dt dt_Md_ordered_0 5 rfl) ?_
    refine ev_get (v := .ref (m + 3)) (ev_dt dt_Md_ordered_0 6 rfl) g_Md_17_10 hM.1 rfl ?_
    refine ev_iload_1 (ev_dt dt_Md_ordered_0 7 rfl) ?_
    refine ev_iald (f := A 2) (ev_dt dt_Md_ordered_0 8 rfl) hM.a2 (by omega) (by decide) rfl ?_
    obtain ⟨hk, -⟩ := hS.1 i hi
    rw [hk]
    obtain hk' | hk' | hk' | hk' | hk' | hk' : nK N i = 0 ∨ nK N i = 1 ∨ nK N i = 2 ∨ nK N i = 3 ∨ nK N i = 4 ∨ nK N i = 5 := by omega
    · rw [hk']
      refine ev_tabIn (tgt := 52) (off := 39) (ev_dt dt_Md_ordered_0 9 rfl) (by decide +kernel) (by decide +kernel) (by decide +kernel) (by decide) ?_
      refine ev_iload_2 (ev_dt dt_Md_ordered_0 10 rfl) ?_
      refine ev_i2l (ev_dt dt_Md_ordered_0 11 rfl) rfl ?_
      refine ev_iload_3 (ev_dt dt_Md_ordered_0 12 rfl) ?_
      refine ev_i2l (ev_dt dt_Md_ordered_0 13 rfl) rfl ?_
      refine ev_callS (ev_dt dt_Md_ordered_0 14 rfl) s_Md_128 [.long (x.toInt64), .long (y.toInt64)] rfl np_Md_byLess rfl (ev_lk_of (j := 0) rfl rfl) (r_byLess (ev_r1 ?_))
      rw [so_bl (a := x.toInt64.toInt) (b := y.toInt64.toInt) g1 (by unfold pf; rw [hk', if_pos rfl, Int32.toInt_toInt64, Int32.toInt_toInt64]; exact decide_eq_decide.mpr Int32.lt_iff_toInt_lt) (by unfold pf; rw [hk', if_pos rfl, Int32.toInt_toInt64, Int32.toInt_toInt64]; exact decide_eq_decide.mpr Int32.lt_iff_toInt_lt)] at kk
      exact ev_ireturn (ev_dt dt_Md_ordered_0 15 rfl) rfl rfl kk
    · rw [hk']
      refine ev_tabIn (tgt := 60) (off := 47) (ev_dt dt_Md_ordered_0 9 rfl) (by decide +kernel) (by decide +kernel) (by decide +kernel) (by decide) ?_
      refine ev_iload_3 (ev_dt dt_Md_ordered_0 16 rfl) ?_
      refine ev_i2l (ev_dt dt_Md_ordered_0 17 rfl) rfl ?_
      refine ev_iload_2 (ev_dt dt_Md_ordered_0 18 rfl) ?_
      refine ev_i2l (ev_dt dt_Md_ordered_0 19 rfl) rfl ?_
      refine ev_callS (ev_dt dt_Md_ordered_0 20 rfl) s_Md_128 [.long (y.toInt64), .long (x.toInt64)] rfl np_Md_byLess rfl (ev_lk_of (j := 0) rfl rfl) (r_byLess (ev_r1 ?_))
      rw [so_bl (a := y.toInt64.toInt) (b := x.toInt64.toInt) g1 (by unfold pf; rw [hk', if_neg (by decide), if_pos rfl, Int32.toInt_toInt64, Int32.toInt_toInt64]; exact decide_eq_decide.mpr Int32.lt_iff_toInt_lt) (by unfold pf; rw [hk', if_neg (by decide), if_pos rfl, Int32.toInt_toInt64, Int32.toInt_toInt64]; exact decide_eq_decide.mpr Int32.lt_iff_toInt_lt)] at kk
      exact ev_ireturn (ev_dt dt_Md_ordered_0 21 rfl) rfl rfl kk
    · rw [hk']
      refine ev_tabIn (tgt := 92) (off := 79) (ev_dt dt_Md_ordered_0 9 rfl) (by decide +kernel) (by decide +kernel) (by decide +kernel) (by decide) ?_
      refine ev_aload_0 (ev_dt dt_Md_ordered_0 38 rfl) ?_
      refine ev_iload_1 (ev_dt dt_Md_ordered_0 39 rfl) ?_
      refine ev_iload_2 (ev_dt dt_Md_ordered_0 40 rfl) ?_
      refine ev_callV (ev_dt dt_Md_ordered_0 41 rfl) v_Md_140_10 hM.1 [.int (nI i), .int x] rfl np_Md_distance rfl (ev_lk_of (j := 4) rfl rfl) (r_distance (d := d + 1) hM hS hnc hi (fun r1 e1 => ev_r1 ?_))
      refine ev_aload_0 (ev_dt dt_Md_ordered_0 42 rfl) ?_
      refine ev_iload_1 (ev_dt dt_Md_ordered_0 43 rfl) ?_
      refine ev_iload_3 (ev_dt dt_Md_ordered_0 44 rfl) ?_
      refine ev_callV (ev_dt dt_Md_ordered_0 45 rfl) v_Md_140_10 hM.1 [.int (nI i), .int y] rfl np_Md_distance rfl (ev_lk_of (j := 4) rfl rfl) (r_distance (d := d + 1) hM hS hnc hi (fun r2 e2 => ev_r1 ?_))
      have hp : ∀ a b, pf N i a b = decide (dst (nA N i).toInt (if nK N i = 2 then nA N i else nB N i).toInt a.toInt < dst (nA N i).toInt (if nK N i = 2 then nA N i else nB N i).toInt b.toInt) := fun a b => by unfold pf; rw [hk']; rfl
      refine ev_callS (ev_dt dt_Md_ordered_0 46 rfl) s_Md_128 [.long r1, .long r2] rfl np_Md_byLess rfl (ev_lk_of (j := 0) rfl rfl) (r_byLess (ev_r1 ?_))
      rw [so_bl (a := r1.toInt) (b := r2.toInt) g1 (by rw [hp, e1, e2]) (by rw [hp, e1, e2])] at kk
      exact ev_ireturn (ev_dt dt_Md_ordered_0 47 rfl) rfl rfl kk
    · rw [hk']
      refine ev_tabIn (tgt := 92) (off := 79) (ev_dt dt_Md_ordered_0 9 rfl) (by decide +kernel) (by decide +kernel) (by decide +kernel) (by decide) ?_
      refine ev_aload_0 (ev_dt dt_Md_ordered_0 38 rfl) ?_
      refine ev_iload_1 (ev_dt dt_Md_ordered_0 39 rfl) ?_
      refine ev_iload_2 (ev_dt dt_Md_ordered_0 40 rfl) ?_
      refine ev_callV (ev_dt dt_Md_ordered_0 41 rfl) v_Md_140_10 hM.1 [.int (nI i), .int x] rfl np_Md_distance rfl (ev_lk_of (j := 4) rfl rfl) (r_distance (d := d + 1) hM hS hnc hi (fun r1 e1 => ev_r1 ?_))
      refine ev_aload_0 (ev_dt dt_Md_ordered_0 42 rfl) ?_
      refine ev_iload_1 (ev_dt dt_Md_ordered_0 43 rfl) ?_
      refine ev_iload_3 (ev_dt dt_Md_ordered_0 44 rfl) ?_
      refine ev_callV (ev_dt dt_Md_ordered_0 45 rfl) v_Md_140_10 hM.1 [.int (nI i), .int y] rfl np_Md_distance rfl (ev_lk_of (j := 4) rfl rfl) (r_distance (d := d + 1) hM hS hnc hi (fun r2 e2 => ev_r1 ?_))
      have hp : ∀ a b, pf N i a b = decide (dst (nA N i).toInt (if nK N i = 2 then nA N i else nB N i).toInt a.toInt < dst (nA N i).toInt (if nK N i = 2 then nA N i else nB N i).toInt b.toInt) := fun a b => by unfold pf; rw [hk']; rfl
      refine ev_callS (ev_dt dt_Md_ordered_0 46 rfl) s_Md_128 [.long r1, .long r2] rfl np_Md_byLess rfl (ev_lk_of (j := 0) rfl rfl) (r_byLess (ev_r1 ?_))
      rw [so_bl (a := r1.toInt) (b := r2.toInt) g1 (by rw [hp, e1, e2]) (by rw [hp, e1, e2])] at kk
      exact ev_ireturn (ev_dt dt_Md_ordered_0 47 rfl) rfl rfl kk
    · rw [hk']
      refine ev_tabIn (tgt := 68) (off := 55) (ev_dt dt_Md_ordered_0 9 rfl) (by decide +kernel) (by decide +kernel) (by decide +kernel) (by decide) ?_
      refine ev_aload_0 (ev_dt dt_Md_ordered_0 22 rfl) ?_
      refine ev_iload_1 (ev_dt dt_Md_ordered_0 23 rfl) ?_
      refine ev_iload_2 (ev_dt dt_Md_ordered_0 24 rfl) ?_
      refine ev_callV (ev_dt dt_Md_ordered_0 25 rfl) v_Md_132_10 hM.1 [.int (nI i), .int x] rfl np_Md_depth rfl (ev_lk_of (j := 1) rfl rfl) (r_depth (d := d) hM hS hnc hi hk' (fun r1 e1 => ev_r1 ?_))
      refine ev_aload_0 (ev_dt dt_Md_ordered_0 26 rfl) ?_
      refine ev_iload_1 (ev_dt dt_Md_ordered_0 27 rfl) ?_
      refine ev_iload_3 (ev_dt dt_Md_ordered_0 28 rfl) ?_
      refine ev_callV (ev_dt dt_Md_ordered_0 29 rfl) v_Md_132_10 hM.1 [.int (nI i), .int y] rfl np_Md_depth rfl (ev_lk_of (j := 1) rfl rfl) (r_depth (d := d) hM hS hnc hi hk' (fun r2 e2 => ev_r1 ?_))
      have hp : ∀ a b, pf N i a b = decide (dpt (lyr (nY N i) a) < dpt (lyr (nY N i) b)) := fun a b => by unfold pf; rw [hk']; exact dpt_lt (lyr_b (hS.2.2.1 i hi hk')) (lyr_b (hS.2.2.1 i hi hk'))
      refine ev_callS (ev_dt dt_Md_ordered_0 30 rfl) s_Md_128 [.long r1, .long r2] rfl np_Md_byLess rfl (ev_lk_of (j := 0) rfl rfl) (r_byLess (ev_r1 ?_))
      rw [so_bl (a := r1.toInt) (b := r2.toInt) g1 (by rw [hp, e1, e2]) (by rw [hp, e1, e2])] at kk
      exact ev_ireturn (ev_dt dt_Md_ordered_0 31 rfl) rfl rfl kk
    · rw [hk']
      refine ev_tabIn (tgt := 84) (off := 71) (ev_dt dt_Md_ordered_0 9 rfl) (by decide +kernel) (by decide +kernel) (by decide +kernel) (by decide) ?_
      refine ev_aload_0 (ev_dt dt_Md_ordered_0 32 rfl) ?_
      refine ev_iload_1 (ev_dt dt_Md_ordered_0 33 rfl) ?_
      refine ev_iload_2 (ev_dt dt_Md_ordered_0 34 rfl) ?_
      refine ev_iload_3 (ev_dt dt_Md_ordered_0 35 rfl) ?_
      refine ev_callV (ev_dt dt_Md_ordered_0 36 rfl) v_Md_136_10 hM.1 [.int (nI i), .int x, .int y] rfl np_Md_graph rfl (ev_lk_of (j := 0) rfl rfl) (r_graph (d := d) hM hS hnc hi hk' g1 (ev_r1 ?_))
      exact ev_ireturn (ev_dt dt_Md_ordered_0 37 rfl) rfl rfl kk
  · refine ev_ic3 (ev_dt dt_Md_ordered_0 3 rfl) ?_
    rw [so, if_pos g1] at kk
    exact ev_ireturn (ev_dt dt_Md_ordered_0 4 rfl) rfl rfl kk
end R4
