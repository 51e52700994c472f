/-! The class's rows and its contest (written by gen_c2.py over walk.py). -/
/-- nothing outside a .. a + N - 1 has changed -/
def fI (a N : Nat) (h h' : ev_h) : Prop := ∀ q, q < a ∨ a + N ≤ q → h' q = h q
theorem fI.rf {a N : Nat} {h : ev_h} : fI a N h h := fun _ _ => rfl
theorem fI.tr {a N : Nat} {h h1 h2 : ev_h} (x : fI a N h h1) (y : fI a N h1 h2) : fI a N h h2 := fun q hq => (y q hq).trans (x q hq)
theorem fI.up {a N b : Nat} {h : ev_h} {x : va_E} (h1 : a ≤ b) (h2 : b < a + N) : fI a N h (ev_up h b x) := fun q hq => ev_up_n (by omega)
theorem fI.wide {a N b K : Nat} {h h' : ev_h} (x : fI a N h h') (h1 : b ≤ a) (h2 : a + N ≤ b + K) : fI b K h h' := fun q hq => x q (by omega)
/-- the rows that are there, at r: c of them, m made; numbers nu, values V -/
def rwf (r : Nat) : Nat → Option Nat := fun i => if i < 24 then some (r + 3 + i) else none
def RwAt (E : ev_E) (r c m : Nat) (nu : Nat → Int32) (V : Nat → Nat → Int32) (h : ev_h) : Prop := h r = some (oB 1 [.ref (r + 1), .ref (r + 2), .int (nI c), .int (nI m)]) ∧ h (r + 1) = some (iA E 24 nu) ∧ h (r + 2) = some (rA E 5 24 (rwf r)) ∧ ∀ i, i < 24 → h (r + 3 + i) = some (iA E 4 (V i))
theorem rw_v {r j : Nat} (hj : j < 24) : va_rf (rwf r j) = .ref (r + 3 + j) := by simp [rwf, va_rf, hj]
theorem RwAt.kept {E : ev_E} {r c m : Nat} {nu : Nat → Int32} {V : Nat → Nat → Int32} {h h' : ev_h} (hR : RwAt E r c m nu V h) (hq : ∀ q, r ≤ q → q < r + 27 → h' q = h q) : RwAt E r c m nu V h' :=
  ⟨(hq r (by omega) (by omega)).trans hR.1, (hq (r + 1) (by omega) (by omega)).trans hR.2.1, (hq (r + 2) (by omega) (by omega)).trans hR.2.2.1, fun i hi => (hq (r + 3 + i) (by omega) (by omega)).trans (hR.2.2.2 i hi)⟩
/-- the contest at q: who passes, beaters, levels -/
def CtAt (E : ev_E) (q : Nat) (pm : Int32) (be le : Nat → Int32) (h : ev_h) : Prop := h q = some (oB 5 [.ref (q + 1), .ref (q + 2), .int pm]) ∧ h (q + 1) = some (iA E 24 be) ∧ h (q + 2) = some (iA E 24 le)
section CT
variable {E : ev_E} {q : Nat} {pm : Int32} {be le : Nat → Int32} {h : ev_h}
theorem CtAt.kept {h' : ev_h} (hR : CtAt E q pm be le h) (hq : ∀ z, q ≤ z → z < q + 3 → h' z = h z) : CtAt E q pm be le h' := ⟨(hq q (by omega) (by omega)).trans hR.1, (hq (q + 1) (by omega) (by omega)).trans hR.2.1, (hq (q + 2) (by omega) (by omega)).trans hR.2.2⟩
theorem CtAt.setP (hC : CtAt E q pm be le h) (x : Int32) : CtAt E q x be le (ev_up h q (oB 5 [.ref (q + 1), .ref (q + 2), .int x])) ∧ fI q 3 h (ev_up h q (oB 5 [.ref (q + 1), .ref (q + 2), .int x])) := ⟨⟨ev_up_s, (ev_up_n (by omega)).trans hC.2.1, (ev_up_n (by omega)).trans hC.2.2⟩, fI.up (by omega) (by omega)⟩
theorem CtAt.setB (hC : CtAt E q pm be le h) (f : Nat → Int32) : CtAt E q pm f le (ev_up h (q + 1) (iA E 24 f)) ∧ fI q 3 h (ev_up h (q + 1) (iA E 24 f)) := ⟨⟨(ev_up_n (by omega)).trans hC.1, ev_up_s, (ev_up_n (by omega)).trans hC.2.2⟩, fI.up (by omega) (by omega)⟩
theorem CtAt.setL (hC : CtAt E q pm be le h) (f : Nat → Int32) : CtAt E q pm be f (ev_up h (q + 2) (iA E 24 f)) ∧ fI q 3 h (ev_up h (q + 2) (iA E 24 f)) := ⟨⟨(ev_up_n (by omega)).trans hC.1, (ev_up_n (by omega)).trans hC.2.1, ev_up_s⟩, fI.up (by omega) (by omega)⟩
end CT
section C2
variable {E : ev_E} {d : Nat} {h : ev_h} {sz k n : Nat} {Q : ev_Q}
theorem t_Rows_isFull {r c m : Nat} {nu : Nat → Int32} {V : Nat → Nat → Int32} (hc : c ≤ 24) (hm : m ≤ 120) (hR : RwAt E r c m nu V h) (kt : c = 24 ∨ m = 120 → Q (.returned (some (.int (nI 1)))) h sz k n) (kf : c ≠ 24 → m ≠ 120 → Q (.returned (some (.int (nI 0)))) h sz k n) : Ev E m_Rows_isFull d 0 [some (.ref r)] [] h sz k n Q := by
  refine ev_aload_0 (ev_dt dt_Rows_isFull_0 0 rfl) ?_
  refine ev_get (ev_dt dt_Rows_isFull_0 1 rfl) g_Rows_20_1 hR.1 rfl ?_
  refine ev_bipush (ev_dt dt_Rows_isFull_0 2 rfl) bi_24 ?_
  refine ev_icmp_eq (tgt := 18) (ev_dt dt_Rows_isFull_0 3 rfl) (by decide) (fun h1 => ?_) (fun h1 => ?_)
  · refine ev_ic1 (ev_dt dt_Rows_isFull_0 8 rfl) ?_
    refine ev_goto (tgt := 23) (ev_dt dt_Rows_isFull_0 9 rfl) (by decide) ?_
    exact ev_ireturn (ev_dt dt_Rows_isFull_0 11 rfl) rfl bz1 (kt (Or.inl ((nI_eq (by omega) (by omega)).mp h1)))
  · refine ev_aload_0 (ev_dt dt_Rows_isFull_0 4 rfl) ?_
    refine ev_get (ev_dt dt_Rows_isFull_0 5 rfl) g_Rows_24_1 hR.1 rfl ?_
    refine ev_bipush (ev_dt dt_Rows_isFull_0 6 rfl) bi_120 ?_
    refine ev_icmp_ne (tgt := 22) (ev_dt dt_Rows_isFull_0 7 rfl) (by decide) (fun h2 => ?_) (fun h2 => ?_)
    · refine ev_ic0 (ev_dt dt_Rows_isFull_0 10 rfl) ?_
      exact ev_ireturn (ev_dt dt_Rows_isFull_0 11 rfl) rfl bz0 (kf (fun e => h1 (by rw [e])) (fun e => h2 (by rw [e])))
    · refine ev_ic1 (ev_dt dt_Rows_isFull_0 8 rfl) ?_
      refine ev_goto (tgt := 23) (ev_dt dt_Rows_isFull_0 9 rfl) (by decide) ?_
      exact ev_ireturn (ev_dt dt_Rows_isFull_0 11 rfl) rfl bz1 (kt (Or.inr ((nI_eq (by omega) (by omega)).mp h2)))
theorem t_Rows_placeOf {r c m : Nat} {nu : Nat → Int32} {V : Nat → Nat → Int32} {x : Int32} (hc : c ≤ 24) (hR : RwAt E r c m nu V h) (kt : ∀ j, j < c → nu j = x → Q (.returned (some (.int (nI j)))) h sz k n) (kf : (∀ i, i < c → nu i ≠ x) → Q (.returned (some (.int (-1)))) h sz k n) : Ev E m_Rows_placeOf d 0 [some (.ref r), some (.int x), none] [] h sz k n Q := by
  have loop : ∀ m j, j + m = c → (∀ i, i < j → nu i ≠ x) → Ev E m_Rows_placeOf d 2 [some (.ref r), some (.int x), some (.int (nI j))] [] h sz k n Q := by
    intro m
    induction m with
    | zero =>
      intro j hj hno
      refine ev_iload_2 (ev_dt dt_Rows_placeOf_0 2 rfl) ?_
      refine ev_aload_0 (ev_dt dt_Rows_placeOf_0 3 rfl) ?_
      refine ev_get (ev_dt dt_Rows_placeOf_0 4 rfl) g_Rows_20_1 hR.1 rfl ?_
      refine ev_icmp_geT (tgt := 28) (ev_dt dt_Rows_placeOf_0 5 rfl) (by decide) (nI_le (by omega) (by omega)) ?_
      refine ev_icm (ev_dt dt_Rows_placeOf_0 16 rfl) ?_
      exact ev_ireturn (ev_dt dt_Rows_placeOf_0 17 rfl) rfl rfl (kf (fun i hi => hno i (by omega)))
    | succ m ih =>
      intro j hj hno
      refine ev_iload_2 (ev_dt dt_Rows_placeOf_0 2 rfl) ?_
      refine ev_aload_0 (ev_dt dt_Rows_placeOf_0 3 rfl) ?_
      refine ev_get (ev_dt dt_Rows_placeOf_0 4 rfl) g_Rows_20_1 hR.1 rfl ?_
      refine ev_icmp_geF (tgt := 28) (ev_dt dt_Rows_placeOf_0 5 rfl) (by decide) (nI_ge (by omega) (by omega)) ?_
      refine ev_aload_0 (ev_dt dt_Rows_placeOf_0 6 rfl) ?_
      refine ev_get (ev_dt dt_Rows_placeOf_0 7 rfl) g_Rows_9_1 hR.1 rfl ?_
      refine ev_iload_2 (ev_dt dt_Rows_placeOf_0 8 rfl) ?_
      refine ev_iald (ev_dt dt_Rows_placeOf_0 9 rfl) hR.2.1 (by omega) (by decide) rfl ?_
      refine ev_iload_1 (ev_dt dt_Rows_placeOf_0 10 rfl) ?_
      refine ev_icmp_ne (tgt := 22) (ev_dt dt_Rows_placeOf_0 11 rfl) (by decide) (fun hne => ?_) (fun heq => ?_)
      · refine ev_inc1_2 (ev_dt dt_Rows_placeOf_0 14 rfl) (by decide) rfl ?_
        refine ev_goto (tgt := 2) (ev_dt dt_Rows_placeOf_0 15 rfl) (by decide) ?_
        exact ih (j + 1) (by omega) (fun i hi => by
          by_cases e : i = j
          · subst e; exact hne
          · exact hno i (by omega))
      · refine ev_iload_2 (ev_dt dt_Rows_placeOf_0 12 rfl) ?_
        exact ev_ireturn (ev_dt dt_Rows_placeOf_0 13 rfl) rfl rfl (kt j (by omega) heq)
  refine ev_ic0 (ev_dt dt_Rows_placeOf_0 0 rfl) ?_
  refine ev_istore_2 (ev_dt dt_Rows_placeOf_0 1 rfl) (by decide) rfl ?_
  exact loop c 0 (by omega) (fun i hi => absurd hi (Nat.not_lt_zero _))
theorem t_Contest_isIn {x : Int32} {i : Nat} (hi : i < 32) (kt : bt x i = true → Q (.returned (some (.int (nI 1)))) h sz k n) (kf : bt x i = false → Q (.returned (some (.int (nI 0)))) h sz k n) : Ev E m_Contest_isIn d 0 [some (.int x), some (.int (nI i))] [] h sz k n Q := by
  refine ev_iload_0 (ev_dt dt_Contest_isIn_0 0 rfl) ?_
  refine ev_iload_1 (ev_dt dt_Contest_isIn_0 1 rfl) ?_
  refine ev_ishr (ev_dt dt_Contest_isIn_0 2 rfl) rfl ?_
  refine ev_ic1 (ev_dt dt_Contest_isIn_0 3 rfl) ?_
  refine ev_iand (ev_dt dt_Contest_isIn_0 4 rfl) rfl ?_
  refine ev_ic1 (ev_dt dt_Contest_isIn_0 5 rfl) ?_
  refine ev_icmp_ne (tgt := 13) (ev_dt dt_Contest_isIn_0 6 rfl) (by decide) (fun h1 => ?_) (fun h1 => ?_)
  · refine ev_ic0 (ev_dt dt_Contest_isIn_0 9 rfl) ?_
    exact ev_ireturn (ev_dt dt_Contest_isIn_0 10 rfl) rfl bz0 (kf (Bool.eq_false_iff.mpr (fun e => h1 ((q_tst hi).mpr e))))
  · refine ev_ic1 (ev_dt dt_Contest_isIn_0 7 rfl) ?_
    refine ev_goto (tgt := 14) (ev_dt dt_Contest_isIn_0 8 rfl) (by decide) ?_
    exact ev_ireturn (ev_dt dt_Contest_isIn_0 10 rfl) rfl bz1 (kt ((q_tst hi).mp h1))
theorem t_Contest_setLevel {q : Nat} {pm x y : Int32} {be le : Nat → Int32} (hC : CtAt E q pm be le h) (kk : ∀ h' le', CtAt E q pm be le' h' → fI q 3 h h' → (∀ i, i < 24 → le' i = if bt x i = true then y else le i) → Q (.returned none) h' sz k n) : Ev E m_Contest_setLevel (d + 1) 0 [some (.ref q), some (.int x), some (.int y), none] [] h sz k n Q := by
  have loop : ∀ m j h' le', j + m = 24 → CtAt E q pm be le' h' → fI q 3 h h' → (∀ i, i < 24 → le' i = if i < j ∧ bt x i = true then y else le i) → Ev E m_Contest_setLevel (d + 1) 2 [some (.ref q), some (.int x), some (.int y), some (.int (nI j))] [] h' sz k n Q := by
    intro m
    induction m with
    | zero =>
      intro j h' le' hj hC hF hI
      have hI : ∀ i, i < 24 → le' i = if bt x i = true then y else le i := fun i hi => by rw [hI i hi]; simp [show i < j by omega]
      refine ev_iload_3 (ev_dt dt_Contest_setLevel_0 2 rfl) ?_
      refine ev_bipush (ev_dt dt_Contest_setLevel_0 3 rfl) bi_24 ?_
      refine ev_icmp_geT (tgt := 29) (ev_dt dt_Contest_setLevel_0 4 rfl) (by decide) (nI_le (by omega) (by omega)) ?_
      exact ev_return (ev_dt dt_Contest_setLevel_0 16 rfl) rfl (kk h' le' hC hF (fun i hi => hI i (by omega)))
    | succ m ih =>
      intro j h' le' hj hC hF hI
      refine ev_iload_3 (ev_dt dt_Contest_setLevel_0 2 rfl) ?_
      refine ev_bipush (ev_dt dt_Contest_setLevel_0 3 rfl) bi_24 ?_
      refine ev_icmp_geF (tgt := 29) (ev_dt dt_Contest_setLevel_0 4 rfl) (by decide) (nI_ge (by omega) (by omega)) ?_
      refine ev_iload_1 (ev_dt dt_Contest_setLevel_0 5 rfl) ?_
      refine ev_iload_3 (ev_dt dt_Contest_setLevel_0 6 rfl) ?_
      refine ev_callS (ev_dt dt_Contest_setLevel_0 7 rfl) s_Contest_31 [.int x, .int (nI j)] rfl np_Contest_isIn rfl (ev_lk_of (j := 0) rfl rfl) (t_Contest_isIn (by omega) (fun hx => ev_r1 ?_) (fun hx => ev_r1 ?_))
      · refine ev_if_eqF (tgt := 23) (ev_dt dt_Contest_setLevel_0 8 rfl) (by decide) z10 ?_
        refine ev_aload_0 (ev_dt dt_Contest_setLevel_0 9 rfl) ?_
        refine ev_get (ev_dt dt_Contest_setLevel_0 10 rfl) g_Contest_15_5 hC.1 rfl ?_
        refine ev_iload_3 (ev_dt dt_Contest_setLevel_0 11 rfl) ?_
        refine ev_iload_2 (ev_dt dt_Contest_setLevel_0 12 rfl) ?_
        refine ev_iast (ev_dt dt_Contest_setLevel_0 13 rfl) hC.2.2 (by omega) (by decide) ?_
        refine ev_inc1_3 (ev_dt dt_Contest_setLevel_0 14 rfl) (by decide) rfl ?_
        refine ev_goto (tgt := 2) (ev_dt dt_Contest_setLevel_0 15 rfl) (by decide) ?_
        obtain ⟨hC', hF'⟩ := hC.setL (upd le' j y)
        exact ih (j + 1) _ _ (by omega) hC' (hF.tr hF') (fun i hi => by
          by_cases e : i = j
          · subst e; rw [pk_us]; simp [hx]
          · rw [pk_un e, hI i hi]; by_cases e2 : i < j
            · simp [e2, show i < j + 1 by omega]
            · simp [e2, show ¬ i < j + 1 by omega])
      · refine ev_if_eqT (tgt := 23) (ev_dt dt_Contest_setLevel_0 8 rfl) (by decide) z00 ?_
        refine ev_inc1_3 (ev_dt dt_Contest_setLevel_0 14 rfl) (by decide) rfl ?_
        refine ev_goto (tgt := 2) (ev_dt dt_Contest_setLevel_0 15 rfl) (by decide) ?_
        exact ih (j + 1) _ _ (by omega) hC hF (fun i hi => by
          rw [hI i hi]
          by_cases e : i = j
          · subst e; simp [hx]
          · by_cases e2 : i < j
            · simp [e2, show i < j + 1 by omega]
            · simp [e2, show ¬ i < j + 1 by omega])
  refine ev_ic0 (ev_dt dt_Contest_setLevel_0 0 rfl) ?_
  refine ev_istore_3 (ev_dt dt_Contest_setLevel_0 1 rfl) (by decide) rfl ?_
  exact loop 24 0 h le (by omega) hC fI.rf (fun i hi => by simp)
theorem t_Contest_unbeatenAmong {q : Nat} {pm x : Int32} {be le : Nat → Int32} (hC : CtAt E q pm be le h) (kk : ∀ u, (∀ i, i < 32 → bt u i = decide (i < 24 ∧ bt x i = true ∧ be i &&& x = 0)) → Q (.returned (some (.int u))) h sz k n) : Ev E m_Contest_unbeatenAmong (d + 1) 0 [some (.ref q), some (.int x), none, none] [] h sz k n Q := by
  have loop : ∀ m j u, j + m = 24 → (∀ i, i < 32 → bt u i = decide (i < j ∧ bt x i = true ∧ be i &&& x = 0)) → Ev E m_Contest_unbeatenAmong (d + 1) 4 [some (.ref q), some (.int x), some (.int u), some (.int (nI j))] [] h sz k n Q := by
    intro m
    induction m with
    | zero =>
      intro j u hj hI
      refine ev_iload_3 (ev_dt dt_Contest_unbeatenAmong_0 4 rfl) ?_
      refine ev_bipush (ev_dt dt_Contest_unbeatenAmong_0 5 rfl) bi_24 ?_
      refine ev_icmp_geT (tgt := 41) (ev_dt dt_Contest_unbeatenAmong_0 6 rfl) (by decide) (nI_le (by omega) (by omega)) ?_
      refine ev_iload_2 (ev_dt dt_Contest_unbeatenAmong_0 26 rfl) ?_
      exact ev_ireturn (ev_dt dt_Contest_unbeatenAmong_0 27 rfl) rfl rfl (kk u (fun i hi => by rw [hI i hi]; simp only [show (i < j) = (i < 24) by rw [show j = 24 by omega]]))
    | succ m ih =>
      intro j u hj hI
      refine ev_iload_3 (ev_dt dt_Contest_unbeatenAmong_0 4 rfl) ?_
      refine ev_bipush (ev_dt dt_Contest_unbeatenAmong_0 5 rfl) bi_24 ?_
      refine ev_icmp_geF (tgt := 41) (ev_dt dt_Contest_unbeatenAmong_0 6 rfl) (by decide) (nI_ge (by omega) (by omega)) ?_
      refine ev_iload_1 (ev_dt dt_Contest_unbeatenAmong_0 7 rfl) ?_
      refine ev_iload_3 (ev_dt dt_Contest_unbeatenAmong_0 8 rfl) ?_
      refine ev_callS (ev_dt dt_Contest_unbeatenAmong_0 9 rfl) s_Contest_31 [.int x, .int (nI j)] rfl np_Contest_isIn rfl (ev_lk_of (j := 0) rfl rfl) (t_Contest_isIn (by omega) (fun hx => ev_r1 ?_) (fun hx => ev_r1 ?_))
      · refine ev_if_eqF (tgt := 35) (ev_dt dt_Contest_unbeatenAmong_0 10 rfl) (by decide) z10 ?_
        refine ev_aload_0 (ev_dt dt_Contest_unbeatenAmong_0 11 rfl) ?_
        refine ev_get (ev_dt dt_Contest_unbeatenAmong_0 12 rfl) g_Contest_9_5 hC.1 rfl ?_
        refine ev_iload_3 (ev_dt dt_Contest_unbeatenAmong_0 13 rfl) ?_
        refine ev_iald (ev_dt dt_Contest_unbeatenAmong_0 14 rfl) hC.2.1 (by omega) (by decide) rfl ?_
        refine ev_iload_1 (ev_dt dt_Contest_unbeatenAmong_0 15 rfl) ?_
        refine ev_iand (ev_dt dt_Contest_unbeatenAmong_0 16 rfl) rfl ?_
        refine ev_if_ne (tgt := 35) (ev_dt dt_Contest_unbeatenAmong_0 17 rfl) (by decide) (fun hz => ?_) (fun hz => ?_)
        · refine ev_inc1_3 (ev_dt dt_Contest_unbeatenAmong_0 24 rfl) (by decide) rfl ?_
          refine ev_goto (tgt := 4) (ev_dt dt_Contest_unbeatenAmong_0 25 rfl) (by decide) ?_
          exact ih (j + 1) _ (by omega) (fun i hi => by
            rw [hI i hi]
            by_cases e : i = j
            · subst e; simp [hz, nI_0.symm ▸ hz]
            · simp only [show (i < j + 1) = (i < j) by apply propext; constructor <;> omega])
        · refine ev_iload_2 (ev_dt dt_Contest_unbeatenAmong_0 18 rfl) ?_
          refine ev_ic1 (ev_dt dt_Contest_unbeatenAmong_0 19 rfl) ?_
          refine ev_iload_3 (ev_dt dt_Contest_unbeatenAmong_0 20 rfl) ?_
          refine ev_ishl (ev_dt dt_Contest_unbeatenAmong_0 21 rfl) rfl ?_
          refine ev_ior (ev_dt dt_Contest_unbeatenAmong_0 22 rfl) rfl ?_
          refine ev_istore_2 (ev_dt dt_Contest_unbeatenAmong_0 23 rfl) (by decide) rfl ?_
          refine ev_inc1_3 (ev_dt dt_Contest_unbeatenAmong_0 24 rfl) (by decide) rfl ?_
          refine ev_goto (tgt := 4) (ev_dt dt_Contest_unbeatenAmong_0 25 rfl) (by decide) ?_
          exact ih (j + 1) _ (by omega) (fun i hi => by
            rw [b_or, q_sh1 (by omega) hi, hI i hi]
            by_cases e : i = j
            · subst e; simp [hx, hz]
            · simp only [e, decide_false, Bool.or_false, show (i < j + 1) = (i < j) by apply propext; constructor <;> omega])
      · refine ev_if_eqT (tgt := 35) (ev_dt dt_Contest_unbeatenAmong_0 10 rfl) (by decide) z00 ?_
        refine ev_inc1_3 (ev_dt dt_Contest_unbeatenAmong_0 24 rfl) (by decide) rfl ?_
        refine ev_goto (tgt := 4) (ev_dt dt_Contest_unbeatenAmong_0 25 rfl) (by decide) ?_
        exact ih (j + 1) _ (by omega) (fun i hi => by
            rw [hI i hi]
            by_cases e : i = j
            · subst e; simp [hx]
            · simp only [show (i < j + 1) = (i < j) by apply propext; constructor <;> omega])
  refine ev_ic0 (ev_dt dt_Contest_unbeatenAmong_0 0 rfl) ?_
  refine ev_istore_2 (ev_dt dt_Contest_unbeatenAmong_0 1 rfl) (by decide) rfl ?_
  refine ev_ic0 (ev_dt dt_Contest_unbeatenAmong_0 2 rfl) ?_
  refine ev_istore_3 (ev_dt dt_Contest_unbeatenAmong_0 3 rfl) (by decide) rfl ?_
  exact loop 24 0 (nI 0) (by omega) (fun i hi => by rw [q_0]; simp)
end C2
