/-! Graphs grow; the walk to the order that decides (written by gen_c11.py over walk.py). -/
/-- the next node on the way -/
def nx (N : nod) (U V : Nat → Int32) (i : Nat) : Nat := if nK N i = 6 then (if say N U V (nL N i) = 1 then nL N i else nQ N i) else if nK N i = 7 then (if say N U V (nL N i) = 3 then nQ N i else nL N i) else nL N i
/-- the order that decides, and how many nodes are passed -/
def wk (N : nod) : Nat → (Nat → Int32) → (Nat → Int32) → Nat → Nat × Nat
  | 0, _, _, i => (i, 1)
  | f + 1, U, V, i => if nK N i < 6 then (i, 1) else ((wk N f (if nK N i = 9 then V else U) (if nK N i = 9 then U else V) (nx N U V i)).1, (wk N f (if nK N i = 9 then V else U) (if nK N i = 9 then U else V) (nx N U V i)).2 + 1)
theorem wk_o {N : nod} {i : Nat} (hk : nK N i < 6) (U V : Nat → Int32) : ∀ f, wk N f U V i = (i, 1)
  | 0 => rfl
  | f + 1 => by rw [wk, if_pos hk]
theorem wk_t {N : nod} {i f : Nat} (hk : ¬ nK N i < 6) (U V : Nat → Int32) : wk N (f + 1) U V i = ((wk N f (if nK N i = 9 then V else U) (if nK N i = 9 then U else V) (nx N U V i)).1, (wk N f (if nK N i = 9 then V else U) (if nK N i = 9 then U else V) (nx N U V i)).2 + 1) := by rw [wk, if_neg hk]
theorem nx_lt {N : nod} {U V : Nat → Int32} {i : Nat} (hl : nL N i < i) (hq : nQ N i < i) : nx N U V i < i := by
  unfold nx
  split
  · split <;> assumption
  · split
    · split <;> assumption
    · assumption
section C11
variable {E : ev_E} {d : Nat} {h : ev_h} {sz k n : Nat} {Q : ev_Q}
theorem t_g_leads {a : Nat} {g1 g2 g3 g4 g5 : Value} {r : Nat → Int32} (ho : h a = some (oB 8 [.ref (a + 1), .ref (a + 2), g1, g2, g3, g4, g5])) {x y : Nat} (hx : x < 10) (hy : y < 10) (hr : h (a + 2) = some (iA E 10 r)) (kt : bt (r x) y = true → Q (.returned (some (.int (nI 1)))) h sz k n) (kf : bt (r x) y = false → Q (.returned (some (.int (nI 0)))) h sz k n) : Ev E m_Graph_leads d 0 [some (.ref a), some (.int (nI x)), some (.int (nI y))] [] h sz k n Q := by
  refine ev_aload_0 (ev_dt dt_Graph_leads_0 0 rfl) ?_
  refine ev_get (ev_dt dt_Graph_leads_0 1 rfl) g_Graph_15_8 ho rfl ?_
  refine ev_iload_1 (ev_dt dt_Graph_leads_0 2 rfl) ?_
  refine ev_iald (ev_dt dt_Graph_leads_0 3 rfl) hr (by omega) (by decide) rfl ?_
  refine ev_iload_2 (ev_dt dt_Graph_leads_0 4 rfl) ?_
  refine ev_ishr (ev_dt dt_Graph_leads_0 5 rfl) rfl ?_
  refine ev_ic1 (ev_dt dt_Graph_leads_0 6 rfl) ?_
  refine ev_iand (ev_dt dt_Graph_leads_0 7 rfl) rfl ?_
  refine ev_ic1 (ev_dt dt_Graph_leads_0 8 rfl) ?_
  refine ev_icmp_ne (tgt := 18) (ev_dt dt_Graph_leads_0 9 rfl) (by decide) (fun h1 => ?_) (fun h1 => ?_)
  · refine ev_ic0 (ev_dt dt_Graph_leads_0 12 rfl) ?_
    exact ev_ireturn (ev_dt dt_Graph_leads_0 13 rfl) rfl bz0 (kf (Bool.eq_false_iff.mpr (fun e => h1 ((q_tst (by omega)).mpr e))))
  · refine ev_ic1 (ev_dt dt_Graph_leads_0 10 rfl) ?_
    refine ev_goto (tgt := 19) (ev_dt dt_Graph_leads_0 11 rfl) (by decide) ?_
    exact ev_ireturn (ev_dt dt_Graph_leads_0 13 rfl) rfl bz1 (kt ((q_tst (by omega)).mp h1))
theorem t_g_hasEdge {a : Nat} {g1 g2 g3 g4 g5 : Value} {e : Nat → Int32} (ho : h a = some (oB 8 [.ref (a + 1), .ref (a + 2), g1, g2, g3, g4, g5])) {x y : Nat} (hx : x < 10) (hy : y < 10) (he : h (a + 1) = some (iA E 10 e)) (kt : bt (e x) y = true → Q (.returned (some (.int (nI 1)))) h sz k n) (kf : bt (e x) y = false → Q (.returned (some (.int (nI 0)))) h sz k n) : Ev E m_Graph_hasEdge d 0 [some (.ref a), some (.int (nI x)), some (.int (nI y))] [] h sz k n Q := by
  refine ev_aload_0 (ev_dt dt_Graph_hasEdge_0 0 rfl) ?_
  refine ev_get (ev_dt dt_Graph_hasEdge_0 1 rfl) g_Graph_9_8 ho rfl ?_
  refine ev_iload_1 (ev_dt dt_Graph_hasEdge_0 2 rfl) ?_
  refine ev_iald (ev_dt dt_Graph_hasEdge_0 3 rfl) he (by omega) (by decide) rfl ?_
  refine ev_iload_2 (ev_dt dt_Graph_hasEdge_0 4 rfl) ?_
  refine ev_ishr (ev_dt dt_Graph_hasEdge_0 5 rfl) rfl ?_
  refine ev_ic1 (ev_dt dt_Graph_hasEdge_0 6 rfl) ?_
  refine ev_iand (ev_dt dt_Graph_hasEdge_0 7 rfl) rfl ?_
  refine ev_ic1 (ev_dt dt_Graph_hasEdge_0 8 rfl) ?_
  refine ev_icmp_ne (tgt := 18) (ev_dt dt_Graph_hasEdge_0 9 rfl) (by decide) (fun h1 => ?_) (fun h1 => ?_)
  · refine ev_ic0 (ev_dt dt_Graph_hasEdge_0 12 rfl) ?_
    exact ev_ireturn (ev_dt dt_Graph_hasEdge_0 13 rfl) rfl bz0 (kf (Bool.eq_false_iff.mpr (fun e => h1 ((q_tst (by omega)).mpr e))))
  · refine ev_ic1 (ev_dt dt_Graph_hasEdge_0 10 rfl) ?_
    refine ev_goto (tgt := 19) (ev_dt dt_Graph_hasEdge_0 11 rfl) (by decide) ?_
    exact ev_ireturn (ev_dt dt_Graph_hasEdge_0 13 rfl) rfl bz1 (kt ((q_tst (by omega)).mp h1))
theorem t_Graph_join {a : Nat} {g1 g2 g3 g4 g5 : Value} {e r : Nat → Int32} (ho : h a = some (oB 8 [.ref (a + 1), .ref (a + 2), g1, g2, g3, g4, g5])) {b w : Nat} (hb : b < 10) (hw : w < 10) (he : h (a + 1) = some (iA E 10 e)) (hr : h (a + 2) = some (iA E 10 r)) (kk : ∀ f', (∀ z, z < 10 → f' z = rJ r b w z) → Q (.returned none) (ev_up (ev_up h (a + 1) (iA E 10 (eJ e b w))) (a + 2) (iA E 10 f')) sz k n) : Ev E m_Graph_join (d + 1) 0 [some (.ref a), some (.int (nI b)), some (.int (nI w)), none, none] [] h sz k n Q := by
  have loop : ∀ m' j (g : Nat → Int32), j + m' = 10 → (∀ z, z < j → g z = rJ r b w z) → (∀ z, j ≤ z → g z = r z) → Ev E m_Graph_join (d + 1) 26 [some (.ref a), some (.int (nI b)), some (.int (nI w)), some (.int (((nI 1) <<< ((nI w) &&& 31)) ||| (r w))), some (.int (nI j))] [] (ev_up (ev_up h (a + 1) (iA E 10 (upd e b ((e b) ||| ((nI 1) <<< ((nI w) &&& 31)))))) (a + 2) (iA E 10 g)) sz k n Q := by
    intro m'
    induction m' with
    | zero =>
      intro j g hj hI hJ
      refine ev_iload_4 (ev_dt dt_Graph_join_0 21 rfl) ?_
      refine ev_bipush (ev_dt dt_Graph_join_0 22 rfl) bi_10 ?_
      refine ev_icmp_geT (tgt := 66) (ev_dt dt_Graph_join_0 23 rfl) (by decide) (nI_le (by omega) (by omega)) ?_
      exact ev_return (ev_dt dt_Graph_join_0 42 rfl) rfl (kk g (fun z hz => hI z (by omega)))
    | succ m' ih =>
      intro j g hj hI hJ
      refine ev_iload_4 (ev_dt dt_Graph_join_0 21 rfl) ?_
      refine ev_bipush (ev_dt dt_Graph_join_0 22 rfl) bi_10 ?_
      refine ev_icmp_geF (tgt := 66) (ev_dt dt_Graph_join_0 23 rfl) (by decide) (nI_ge (by omega) (by omega)) ?_
      refine ev_iload_4 (ev_dt dt_Graph_join_0 24 rfl) ?_
      refine ev_iload_1 (ev_dt dt_Graph_join_0 25 rfl) ?_
      refine ev_icmp_eq (tgt := 49) (ev_dt dt_Graph_join_0 26 rfl) (by decide) (fun hx => ?_) (fun hx => ?_)
      · have hx' : j = b := (nI_eq (by omega) (by omega)).mp hx
        refine ev_aload_0 (ev_dt dt_Graph_join_0 32 rfl) ?_
        refine ev_get (ev_dt dt_Graph_join_0 33 rfl) g_Graph_15_8 ((ev_up_n (by omega)).trans ((ev_up_n (by omega)).trans ho)) rfl ?_
        refine ev_iload_4 (ev_dt dt_Graph_join_0 34 rfl) ?_
        refine ev_dup2 (ev_dt dt_Graph_join_0 35 rfl) rfl rfl ?_
        refine ev_iald (ev_dt dt_Graph_join_0 36 rfl) ev_up_s (by omega) (by decide) rfl ?_
        refine ev_iload_3 (ev_dt dt_Graph_join_0 37 rfl) ?_
        refine ev_ior (ev_dt dt_Graph_join_0 38 rfl) rfl ?_
        refine ev_iast (ev_dt dt_Graph_join_0 39 rfl) ev_up_s (by omega) (by decide) ?_
        refine ev_inc1_4 (ev_dt dt_Graph_join_0 40 rfl) (by decide) rfl ?_
        refine ev_goto (tgt := 26) (ev_dt dt_Graph_join_0 41 rfl) (by decide) ?_
        rw [ev_up_up]
        have hrj : rJ r b w j = r j ||| (nI 1 <<< (nI w &&& 31) ||| r w) := if_pos (Or.inl hx')
        refine ih (j + 1) _ (by omega) (fun z hz => ?_) (fun z hz => by rw [pk_un (by omega)]; exact hJ z (by omega))
        by_cases e : z = j
        · subst e; rw [pk_us, hJ z (Nat.le_refl _), hrj]
        · rw [pk_un e]; exact hI z (by omega)
      · have hx' : j ≠ b := fun e => hx (by rw [e])
        refine ev_aload_0 (ev_dt dt_Graph_join_0 27 rfl) ?_
        refine ev_iload_4 (ev_dt dt_Graph_join_0 28 rfl) ?_
        refine ev_iload_1 (ev_dt dt_Graph_join_0 29 rfl) ?_
        refine ev_callV (ev_dt dt_Graph_join_0 30 rfl) v_Graph_22_8 ((ev_up_n (by omega)).trans ((ev_up_n (by omega)).trans ho)) [.int (nI j), .int (nI b)] rfl np_Graph_leads rfl (ev_lk_of (j := 0) rfl rfl) (t_g_leads ((ev_up_n (by omega)).trans ((ev_up_n (by omega)).trans ho)) (by omega) hb ev_up_s (fun hy => ev_r1 ?_) (fun hy => ev_r1 ?_))
        · rw [hJ j (Nat.le_refl _)] at hy
          refine ev_if_eqF (tgt := 60) (ev_dt dt_Graph_join_0 31 rfl) (by decide) z10 ?_
          refine ev_aload_0 (ev_dt dt_Graph_join_0 32 rfl) ?_
          refine ev_get (ev_dt dt_Graph_join_0 33 rfl) g_Graph_15_8 ((ev_up_n (by omega)).trans ((ev_up_n (by omega)).trans ho)) rfl ?_
          refine ev_iload_4 (ev_dt dt_Graph_join_0 34 rfl) ?_
          refine ev_dup2 (ev_dt dt_Graph_join_0 35 rfl) rfl rfl ?_
          refine ev_iald (ev_dt dt_Graph_join_0 36 rfl) ev_up_s (by omega) (by decide) rfl ?_
          refine ev_iload_3 (ev_dt dt_Graph_join_0 37 rfl) ?_
          refine ev_ior (ev_dt dt_Graph_join_0 38 rfl) rfl ?_
          refine ev_iast (ev_dt dt_Graph_join_0 39 rfl) ev_up_s (by omega) (by decide) ?_
          refine ev_inc1_4 (ev_dt dt_Graph_join_0 40 rfl) (by decide) rfl ?_
          refine ev_goto (tgt := 26) (ev_dt dt_Graph_join_0 41 rfl) (by decide) ?_
          rw [ev_up_up]
          have hrj : rJ r b w j = r j ||| (nI 1 <<< (nI w &&& 31) ||| r w) := if_pos (Or.inr hy)
          refine ih (j + 1) _ (by omega) (fun z hz => ?_) (fun z hz => by rw [pk_un (by omega)]; exact hJ z (by omega))
          by_cases e : z = j
          · subst e; rw [pk_us, hJ z (Nat.le_refl _), hrj]
          · rw [pk_un e]; exact hI z (by omega)
        · rw [hJ j (Nat.le_refl _)] at hy
          refine ev_if_eqT (tgt := 60) (ev_dt dt_Graph_join_0 31 rfl) (by decide) z00 ?_
          refine ev_inc1_4 (ev_dt dt_Graph_join_0 40 rfl) (by decide) rfl ?_
          refine ev_goto (tgt := 26) (ev_dt dt_Graph_join_0 41 rfl) (by decide) ?_
          have hrj : rJ r b w j = r j := if_neg (fun e => e.elim hx' (fun e => by rw [hy] at e; cases e))
          refine ih (j + 1) _ (by omega) (fun z hz => ?_) (fun z hz => hJ z (by omega))
          by_cases e : z = j
          · subst e; rw [hJ z (Nat.le_refl _), hrj]
          · exact hI z (by omega)
  refine ev_aload_0 (ev_dt dt_Graph_join_0 0 rfl) ?_
  refine ev_get (ev_dt dt_Graph_join_0 1 rfl) g_Graph_9_8 ho rfl ?_
  refine ev_iload_1 (ev_dt dt_Graph_join_0 2 rfl) ?_
  refine ev_dup2 (ev_dt dt_Graph_join_0 3 rfl) rfl rfl ?_
  refine ev_iald (ev_dt dt_Graph_join_0 4 rfl) he (by omega) (by decide) rfl ?_
  refine ev_ic1 (ev_dt dt_Graph_join_0 5 rfl) ?_
  refine ev_iload_2 (ev_dt dt_Graph_join_0 6 rfl) ?_
  refine ev_ishl (ev_dt dt_Graph_join_0 7 rfl) rfl ?_
  refine ev_ior (ev_dt dt_Graph_join_0 8 rfl) rfl ?_
  refine ev_iast (ev_dt dt_Graph_join_0 9 rfl) he (by omega) (by decide) ?_
  refine ev_ic1 (ev_dt dt_Graph_join_0 10 rfl) ?_
  refine ev_iload_2 (ev_dt dt_Graph_join_0 11 rfl) ?_
  refine ev_ishl (ev_dt dt_Graph_join_0 12 rfl) rfl ?_
  refine ev_aload_0 (ev_dt dt_Graph_join_0 13 rfl) ?_
  refine ev_get (ev_dt dt_Graph_join_0 14 rfl) g_Graph_15_8 ((ev_up_n (by omega)).trans ho) rfl ?_
  refine ev_iload_2 (ev_dt dt_Graph_join_0 15 rfl) ?_
  refine ev_iald (ev_dt dt_Graph_join_0 16 rfl) ((ev_up_n (by omega)).trans hr) (by omega) (by decide) rfl ?_
  refine ev_ior (ev_dt dt_Graph_join_0 17 rfl) rfl ?_
  refine ev_istore_3 (ev_dt dt_Graph_join_0 18 rfl) (by decide) rfl ?_
  refine ev_ic0 (ev_dt dt_Graph_join_0 19 rfl) ?_
  refine ev_istore_4 (ev_dt dt_Graph_join_0 20 rfl) (by decide) rfl ?_
  have h0 : ev_up (ev_up h (a + 1) (iA E 10 (upd e b ((e b) ||| ((nI 1) <<< ((nI w) &&& 31)))))) (a + 2) (iA E 10 r) = (ev_up h (a + 1) (iA E 10 (upd e b ((e b) ||| ((nI 1) <<< ((nI w) &&& 31)))))) := ev_up_self ((ev_up_n (by omega)).trans hr)
  rw [← h0]
  exact loop 10 0 r (by omega) (fun z hz => absurd hz (Nat.not_lt_zero _)) (fun z hz => rfl)
theorem t_partThatDecides {N : nod} {ed : Nat → Nat → Int32} {zs : Nat → Nat} {cs : Nat → Int32} {ad : Nat → Nat} {i : Nat} {c u v : Nat} {U V : Nat → Int32} (hi : i < c) (hdd : i + 5 ≤ d) (h6 : 6 ≤ nK N i) (h9 : nK N i ≤ 9) (hl : nL N i < i) (hq : nQ N i < i) (ho : h (ad i) = some (oB 9 [.ref (ad (nL N i)), .ref (ad (nQ N i)), .int (nI (nK N i)), .int (nI i), .int (nI (zs i)), .int (cs i)])) (hN : ∀ j, j < c → NdAt E N ed zs cs ad j h) (hu : h u = some (iA E 4 U)) (hv : h v = some (iA E 4 V)) (kk : Q (.returned (some (.ref (ad (nx N U V i))))) h sz k n) : Ev E m_Term_partThatDecides (d + 1) 0 [some (.ref (ad i)), some (.ref u), some (.ref v)] [] h sz k n Q := by
  obtain hk | hk | hk | hk : nK N i = 6 ∨ nK N i = 7 ∨ nK N i = 8 ∨ nK N i = 9 := by omega
  · refine ev_aload_0 (ev_dt dt_Term_partThatDecides_0 0 rfl) ?_
    refine ev_get (ev_dt dt_Term_partThatDecides_0 1 rfl) g_Term_33_9 ho rfl ?_
    rw [hk]
    refine ev_look (tgt := 32) (off := 28) (ev_dt dt_Term_partThatDecides_0 2 rfl) (by decide +kernel) (by decide +kernel) (by decide) ?_
    refine ev_aload_0 (ev_dt dt_Term_partThatDecides_0 3 rfl) ?_
    refine ev_get (ev_dt dt_Term_partThatDecides_0 4 rfl) g_Term_19_9 ho rfl ?_
    refine ev_aload_1 (ev_dt dt_Term_partThatDecides_0 5 rfl) ?_
    refine ev_aload_2 (ev_dt dt_Term_partThatDecides_0 6 rfl) ?_
    refine ev_saysG (ev_dt dt_Term_partThatDecides_0 7 rfl) u_Term_29_6 u_Term_29_7 u_Term_29_8 u_Term_29_9 (hN (nL N i) (by omega)) rfl (t_says hN hu hv (nL N i) (by omega) d (by omega)) ?_
    refine ev_ic1 (ev_dt dt_Term_partThatDecides_0 8 rfl) ?_
    refine ev_icmp_ne (tgt := 52) (ev_dt dt_Term_partThatDecides_0 9 rfl) (by decide) (fun h1 => ?_) (fun h1 => ?_)
    · have hx : nx N U V i = nQ N i := by unfold nx; rw [hk]; rw [if_pos rfl]; exact if_neg (fun e => h1 (by rw [e]; rfl))
      rw [hx] at kk
      refine ev_aload_0 (ev_dt dt_Term_partThatDecides_0 13 rfl) ?_
      refine ev_get (ev_dt dt_Term_partThatDecides_0 14 rfl) g_Term_23_9 ho rfl ?_
      exact ev_areturn (ev_dt dt_Term_partThatDecides_0 15 rfl) rfl kk
    · have hx : nx N U V i = nL N i := by unfold nx; rw [hk]; rw [if_pos rfl]; exact if_pos (nv.mp h1)
      rw [hx] at kk
      refine ev_aload_0 (ev_dt dt_Term_partThatDecides_0 10 rfl) ?_
      refine ev_get (ev_dt dt_Term_partThatDecides_0 11 rfl) g_Term_19_9 ho rfl ?_
      refine ev_goto (tgt := 56) (ev_dt dt_Term_partThatDecides_0 12 rfl) (by decide) ?_
      exact ev_areturn (ev_dt dt_Term_partThatDecides_0 15 rfl) rfl kk
  · refine ev_aload_0 (ev_dt dt_Term_partThatDecides_0 0 rfl) ?_
    refine ev_get (ev_dt dt_Term_partThatDecides_0 1 rfl) g_Term_33_9 ho rfl ?_
    rw [hk]
    refine ev_look (tgt := 57) (off := 53) (ev_dt dt_Term_partThatDecides_0 2 rfl) (by decide +kernel) (by decide +kernel) (by decide) ?_
    refine ev_aload_0 (ev_dt dt_Term_partThatDecides_0 16 rfl) ?_
    refine ev_get (ev_dt dt_Term_partThatDecides_0 17 rfl) g_Term_19_9 ho rfl ?_
    refine ev_aload_1 (ev_dt dt_Term_partThatDecides_0 18 rfl) ?_
    refine ev_aload_2 (ev_dt dt_Term_partThatDecides_0 19 rfl) ?_
    refine ev_saysG (ev_dt dt_Term_partThatDecides_0 20 rfl) u_Term_29_6 u_Term_29_7 u_Term_29_8 u_Term_29_9 (hN (nL N i) (by omega)) rfl (t_says hN hu hv (nL N i) (by omega) d (by omega)) ?_
    refine ev_ic3 (ev_dt dt_Term_partThatDecides_0 21 rfl) ?_
    refine ev_icmp_ne (tgt := 77) (ev_dt dt_Term_partThatDecides_0 22 rfl) (by decide) (fun h1 => ?_) (fun h1 => ?_)
    · have hx : nx N U V i = nL N i := by unfold nx; rw [hk, if_neg (by decide)]; rw [if_pos rfl]; exact if_neg (fun e => h1 (by rw [e]; rfl))
      rw [hx] at kk
      refine ev_aload_0 (ev_dt dt_Term_partThatDecides_0 26 rfl) ?_
      refine ev_get (ev_dt dt_Term_partThatDecides_0 27 rfl) g_Term_19_9 ho rfl ?_
      exact ev_areturn (ev_dt dt_Term_partThatDecides_0 28 rfl) rfl kk
    · have hx : nx N U V i = nQ N i := by unfold nx; rw [hk, if_neg (by decide)]; rw [if_pos rfl]; exact if_pos (nv.mp h1)
      rw [hx] at kk
      refine ev_aload_0 (ev_dt dt_Term_partThatDecides_0 23 rfl) ?_
      refine ev_get (ev_dt dt_Term_partThatDecides_0 24 rfl) g_Term_23_9 ho rfl ?_
      refine ev_goto (tgt := 81) (ev_dt dt_Term_partThatDecides_0 25 rfl) (by decide) ?_
      exact ev_areturn (ev_dt dt_Term_partThatDecides_0 28 rfl) rfl kk
  · refine ev_aload_0 (ev_dt dt_Term_partThatDecides_0 0 rfl) ?_
    refine ev_get (ev_dt dt_Term_partThatDecides_0 1 rfl) g_Term_33_9 ho rfl ?_
    rw [hk]
    refine ev_look (tgt := 82) (off := 78) (ev_dt dt_Term_partThatDecides_0 2 rfl) (by decide +kernel) (by decide +kernel) (by decide) ?_
    refine ev_aload_0 (ev_dt dt_Term_partThatDecides_0 29 rfl) ?_
    refine ev_get (ev_dt dt_Term_partThatDecides_0 30 rfl) g_Term_19_9 ho rfl ?_
    have hx : nx N U V i = nL N i := by unfold nx; rw [hk, if_neg (by decide), if_neg (by decide)]
    rw [hx] at kk
    exact ev_areturn (ev_dt dt_Term_partThatDecides_0 31 rfl) rfl kk
  · refine ev_aload_0 (ev_dt dt_Term_partThatDecides_0 0 rfl) ?_
    refine ev_get (ev_dt dt_Term_partThatDecides_0 1 rfl) g_Term_33_9 ho rfl ?_
    rw [hk]
    refine ev_look (tgt := 82) (off := 78) (ev_dt dt_Term_partThatDecides_0 2 rfl) (by decide +kernel) (by decide +kernel) (by decide) ?_
    refine ev_aload_0 (ev_dt dt_Term_partThatDecides_0 29 rfl) ?_
    refine ev_get (ev_dt dt_Term_partThatDecides_0 30 rfl) g_Term_19_9 ho rfl ?_
    have hx : nx N U V i = nL N i := by unfold nx; rw [hk, if_neg (by decide), if_neg (by decide)]
    rw [hx] at kk
    exact ev_areturn (ev_dt dt_Term_partThatDecides_0 31 rfl) rfl kk
/-- instanceof Term, at an order -/
theorem ev_ord {M : ev_M} {pc pc' : Nat} {ls : List (Option Value)} {st : List Value} {N : nod} {ed : Nat → Nat → Int32} {zs : Nat → Nat} {cs : Nat → Int32} {ad : Nat → Nat} {i : Nat} (hM : M.1.cls = "PreferTable") (hd : ev_d M pc (.instanceof 142) 3 pc') (hE : ev_nok E) (hk : nK N i < 6) (hN : NdAt E N ed zs cs ad i h) (kk : Ev E M d pc' ls (.int 0 :: st) h sz k n Q) : Ev E M d pc ls (.ref (ad i) :: st) h sz k n Q := by
  have hl : Cond.classLink M.1.cls 142 "PreferTable$Term" ∈ lw_tbl := by rw [hM]; exact wd_590
  rcases hN with ⟨-, hc, ho⟩ | ⟨-, hc, ho, -⟩ | ⟨-, hc, ho, -⟩ | ⟨h6, -⟩
  · exact ev_isnt hd hl rfl hE (by decide) ho kk
  · exact ev_isnt hd hl rfl hE (by decide) ho kk
  · exact ev_isnt hd hl rfl hE (by decide) ho kk
  · omega
/-- what w asks of the way -/
def wR (q : Int32) (r : Nat × Nat) : Int32 := if q = 0 then nI r.1 else if q = nI 1 then nI r.2 else -1
theorem t_walk {N : nod} {ed : Nat → Nat → Int32} {zs : Nat → Nat} {cs : Nat → Int32} {ad : Nat → Nat} {i : Nat} {c u v : Nat} {q : Int32} {U V : Nat → Int32} (hE : ev_nok E) (hc : c ≤ 24) (hi : i < c) (hdd : 30 ≤ d) (hN : ∀ j, j < c → NdAt E N ed zs cs ad j h) (hu : h u = some (iA E 4 U)) (hv : h v = some (iA E 4 V)) (kk : Q (.returned (some (.int (wR q (wk N 23 U V i))))) h sz k n) : Ev E m_PT_walkToDecider (d + 2) 0 [some (.ref (ad i)), some (.ref u), some (.ref v), some (.int q), none, none, none, none, none, none] [] h sz k n Q := by
  have fin : ∀ (i u v t : Nat), i < c → Q (.returned (some (.int (wR q (i, t))))) h sz k n → Ev E m_PT_walkToDecider (d + 2) 73 [none, none, none, some (.int q), some (.ref (ad i)), some (.ref u), some (.ref v), some (.int (nI t)), none, none] [] h sz k n Q := by
    intro i u v t hi kE
    refine ev_iload_3 (ev_dt dt_PT_walkToDecider_0 34 rfl) ?_
    refine ev_if_ne (tgt := 83) (ev_dt dt_PT_walkToDecider_0 35 rfl) (by decide) (fun h1 => ?_) (fun h1 => ?_)
    · refine ev_iload_3 (ev_dt dt_PT_walkToDecider_0 39 rfl) ?_
      refine ev_ic1 (ev_dt dt_PT_walkToDecider_0 40 rfl) ?_
      refine ev_icmp_ne (tgt := 93) (ev_dt dt_PT_walkToDecider_0 41 rfl) (by decide) (fun h2 => ?_) (fun h2 => ?_)
      · refine ev_icm (ev_dt dt_PT_walkToDecider_0 44 rfl) ?_
        exact ev_ireturn (ev_dt dt_PT_walkToDecider_0 45 rfl) rfl rfl (by have this := kE; rw [wR, if_neg h1, if_neg h2] at this; exact this)
      · refine ev_iload_7 (ev_dt dt_PT_walkToDecider_0 42 rfl) ?_
        refine ev_goto (tgt := 94) (ev_dt dt_PT_walkToDecider_0 43 rfl) (by decide) ?_
        exact ev_ireturn (ev_dt dt_PT_walkToDecider_0 45 rfl) rfl rfl (by have this := kE; rw [wR, if_neg h1, if_pos h2] at this; exact this)
    · refine ev_aload_4 (ev_dt dt_PT_walkToDecider_0 36 rfl) ?_
      refine ev_nd_numb (ev_dt dt_PT_walkToDecider_0 37 rfl) g_PT_252_6 g_PT_252_7 g_PT_252_8 g_PT_252_9 (hN i hi) ?_
      exact ev_ireturn (ev_dt dt_PT_walkToDecider_0 38 rfl) rfl rfl (by have this := kE; rw [wR, if_pos h1] at this; exact this)
  have loop : ∀ (f i j : Nat) (U V : Nat → Int32) (u v : Nat), i ≤ f → f + j ≤ 23 → i < c → h u = some (iA E 4 U) → h v = some (iA E 4 V) → Q (.returned (some (.int (wR q ((wk N f U V i).1, j + (wk N f U V i).2))))) h sz k n → Ev E m_PT_walkToDecider (d + 2) 12 [none, none, none, some (.int q), some (.ref (ad i)), some (.ref u), some (.ref v), some (.int (nI (j + 1))), none, none] [] h sz k n Q := by
    intro f
    induction f with
    | zero =>
      intro i j U V u v hif hfj hi hu hv kE
      have hk : nK N i < 6 := by
        rcases hN i hi with ⟨a, -⟩ | ⟨a, -⟩ | ⟨a, -⟩ | ⟨-, -, a, -⟩ <;> omega
      refine ev_iload_7 (ev_dt dt_PT_walkToDecider_0 8 rfl) ?_
      refine ev_bipush (ev_dt dt_PT_walkToDecider_0 9 rfl) bi_24 ?_
      refine ev_icmp_ge (tgt := 73) (ev_dt dt_PT_walkToDecider_0 10 rfl) (by decide) (fun h1 => ?_) (fun h1 => ?_)
      · exact fin i u v (j + 1) hi (by rw [wk_o hk] at kE; exact kE)
      · refine ev_aload_4 (ev_dt dt_PT_walkToDecider_0 11 rfl) ?_
        refine ev_ord rfl (ev_dt dt_PT_walkToDecider_0 12 rfl) hE hk (hN i hi) ?_
        refine ev_if_eqT (tgt := 73) (ev_dt dt_PT_walkToDecider_0 13 rfl) (by decide) rfl ?_
        exact fin i u v (j + 1) hi (by rw [wk_o hk] at kE; exact kE)
    | succ f ih =>
      intro i j U V u v hif hfj hi hu hv kE
      by_cases hk : nK N i < 6
      · refine ev_iload_7 (ev_dt dt_PT_walkToDecider_0 8 rfl) ?_
        refine ev_bipush (ev_dt dt_PT_walkToDecider_0 9 rfl) bi_24 ?_
        refine ev_icmp_ge (tgt := 73) (ev_dt dt_PT_walkToDecider_0 10 rfl) (by decide) (fun h1 => ?_) (fun h1 => ?_)
        · exact fin i u v (j + 1) hi (by rw [wk_o hk] at kE; exact kE)
        · refine ev_aload_4 (ev_dt dt_PT_walkToDecider_0 11 rfl) ?_
          refine ev_ord rfl (ev_dt dt_PT_walkToDecider_0 12 rfl) hE hk (hN i hi) ?_
          refine ev_if_eqT (tgt := 73) (ev_dt dt_PT_walkToDecider_0 13 rfl) (by decide) rfl ?_
          exact fin i u v (j + 1) hi (by rw [wk_o hk] at kE; exact kE)
      · obtain ⟨h6, h9, hl, hq, ho⟩ : 6 ≤ nK N i ∧ nK N i ≤ 9 ∧ nL N i < i ∧ nQ N i < i ∧ h (ad i) = some (oB 9 [.ref (ad (nL N i)), .ref (ad (nQ N i)), .int (nI (nK N i)), .int (nI i), .int (nI (zs i)), .int (cs i)]) := by
          rcases hN i hi with ⟨a, -⟩ | ⟨a, -⟩ | ⟨a, -⟩ | a
          · omega
          · omega
          · omega
          · exact a
        have hxl := nx_lt (U := U) (V := V) hl hq
        refine ev_iload_7 (ev_dt dt_PT_walkToDecider_0 8 rfl) ?_
        refine ev_bipush (ev_dt dt_PT_walkToDecider_0 9 rfl) bi_24 ?_
        refine ev_icmp_geF (tgt := 73) (ev_dt dt_PT_walkToDecider_0 10 rfl) (by decide) (nI_ge (by omega) (by omega)) ?_
        refine ev_aload_4 (ev_dt dt_PT_walkToDecider_0 11 rfl) ?_
        refine ev_instY (ev_dt dt_PT_walkToDecider_0 12 rfl) wd_590 rfl (Or.inl rfl) ho ?_
        refine ev_if_eqF (tgt := 73) (ev_dt dt_PT_walkToDecider_0 13 rfl) (by decide) (by decide) ?_
        refine ev_aload_4 (ev_dt dt_PT_walkToDecider_0 14 rfl) ?_
        refine ev_cast (ev_dt dt_PT_walkToDecider_0 15 rfl) wd_590 rfl (Or.inl rfl) ho ?_
        refine ev_astore_8 (ev_dt dt_PT_walkToDecider_0 16 rfl) (by decide) rfl ?_
        refine ev_aload_8 (ev_dt dt_PT_walkToDecider_0 17 rfl) ?_
        refine ev_aload_5 (ev_dt dt_PT_walkToDecider_0 18 rfl) ?_
        refine ev_aload_6 (ev_dt dt_PT_walkToDecider_0 19 rfl) ?_
        refine ev_callV (ev_dt dt_PT_walkToDecider_0 20 rfl) v_PT_267_9 ho [.ref u, .ref v] rfl np_Term_partThatDecides rfl (ev_lk_of (j := 0) rfl rfl) (t_partThatDecides (d := d) (U := U) (V := V) hi (by omega) h6 h9 hl hq ho hN hu hv (ev_r1 ?_))
        refine ev_astore_4 (ev_dt dt_PT_walkToDecider_0 21 rfl) (by decide) rfl ?_
        refine ev_aload_8 (ev_dt dt_PT_walkToDecider_0 22 rfl) ?_
        refine ev_get (ev_dt dt_PT_walkToDecider_0 23 rfl) g_PT_271_9 ho rfl ?_
        refine ev_bipush (ev_dt dt_PT_walkToDecider_0 24 rfl) bi_9 ?_
        refine ev_icmp_ne (tgt := 67) (ev_dt dt_PT_walkToDecider_0 25 rfl) (by decide) (fun h1 => ?_) (fun h1 => ?_)
        · have h9' : ¬ nK N i = 9 := fun e => h1 (by rw [e])
          refine ev_inc1_7 (ev_dt dt_PT_walkToDecider_0 32 rfl) (by decide) rfl ?_
          refine ev_goto (tgt := 12) (ev_dt dt_PT_walkToDecider_0 33 rfl) (by decide) ?_
          rw [wk_t hk, if_neg h9', if_neg h9'] at kE
          refine ev_fg_8 ?_
          exact ih (nx N U V i) (j + 1) U V u v (by omega) (by omega) (by omega) hu hv (by rw [show j + 1 + (wk N f U V (nx N U V i)).2 = j + ((wk N f U V (nx N U V i)).2 + 1) by omega]; exact kE)
        · have h9' : nK N i = 9 := (nI_eq (by omega) (by omega)).mp h1
          refine ev_aload_5 (ev_dt dt_PT_walkToDecider_0 26 rfl) ?_
          refine ev_astore_9 (ev_dt dt_PT_walkToDecider_0 27 rfl) (by decide) rfl ?_
          refine ev_aload_6 (ev_dt dt_PT_walkToDecider_0 28 rfl) ?_
          refine ev_astore_5 (ev_dt dt_PT_walkToDecider_0 29 rfl) (by decide) rfl ?_
          refine ev_aload_9 (ev_dt dt_PT_walkToDecider_0 30 rfl) ?_
          refine ev_astore_6 (ev_dt dt_PT_walkToDecider_0 31 rfl) (by decide) rfl ?_
          refine ev_inc1_7 (ev_dt dt_PT_walkToDecider_0 32 rfl) (by decide) rfl ?_
          refine ev_goto (tgt := 12) (ev_dt dt_PT_walkToDecider_0 33 rfl) (by decide) ?_
          rw [wk_t hk, if_pos h9', if_pos h9'] at kE
          refine ev_fg_8 (ev_fg_9 ?_)
          exact ih (nx N U V i) (j + 1) V U v u (by omega) (by omega) (by omega) hv hu (by rw [show j + 1 + (wk N f V U (nx N U V i)).2 = j + ((wk N f V U (nx N U V i)).2 + 1) by omega]; exact kE)
  refine ev_aload_0 (ev_dt dt_PT_walkToDecider_0 0 rfl) ?_
  refine ev_astore_4 (ev_dt dt_PT_walkToDecider_0 1 rfl) (by decide) rfl ?_
  refine ev_aload_1 (ev_dt dt_PT_walkToDecider_0 2 rfl) ?_
  refine ev_astore_5 (ev_dt dt_PT_walkToDecider_0 3 rfl) (by decide) rfl ?_
  refine ev_aload_2 (ev_dt dt_PT_walkToDecider_0 4 rfl) ?_
  refine ev_astore_6 (ev_dt dt_PT_walkToDecider_0 5 rfl) (by decide) rfl ?_
  refine ev_ic1 (ev_dt dt_PT_walkToDecider_0 6 rfl) ?_
  refine ev_istore_7 (ev_dt dt_PT_walkToDecider_0 7 rfl) (by decide) rfl ?_
  refine ev_fg_0 (ev_fg_1 (ev_fg_2 ?_))
  exact loop 23 i 0 U V u v (by omega) (by omega) hi hu hv (by rw [Nat.zero_add]; exact kk)
end C11
