/-! Rows come and go; conditions are copied; a question is asked (written by gen_c8.py over walk.py). -/
section C8
variable {E : ev_E} {d : Nat} {h : ev_h} {sz k n : Nat} {Q : ev_Q}
theorem t_Rows_add {r c m : Nat} {nu : Nat → Int32} {V : Nat → Nat → Int32} {x0 x1 x2 x3 : Int32} (hc : c < 24) (hR : RwAt E r c m nu V h) (kk : ∀ h', RwAt E r (c + 1) (m + 1) (upd nu c (nI m)) (fun i => if i = c then upd (upd (upd (upd (V c) 0 x0) 1 x1) 2 x2) 3 x3 else V i) h' → fI r 27 h h' → Q (.returned (some (.int (nI m)))) h' sz k n) : Ev E m_Rows_add d 0 [some (.ref r), some (.int x0), some (.int x1), some (.int x2), some (.int x3), none] [] h sz k n Q := by
  refine ev_aload_0 (ev_dt dt_Rows_add_0 0 rfl) ?_
  refine ev_get (ev_dt dt_Rows_add_0 1 rfl) g_Rows_24_1 hR.1 rfl ?_
  refine ev_istore_5 (ev_dt dt_Rows_add_0 2 rfl) (by decide) rfl ?_
  refine ev_aload_0 (ev_dt dt_Rows_add_0 3 rfl) ?_
  refine ev_get (ev_dt dt_Rows_add_0 4 rfl) g_Rows_9_1 hR.1 rfl ?_
  refine ev_aload_0 (ev_dt dt_Rows_add_0 5 rfl) ?_
  refine ev_get (ev_dt dt_Rows_add_0 6 rfl) g_Rows_20_1 hR.1 rfl ?_
  refine ev_iload_5 (ev_dt dt_Rows_add_0 7 rfl) ?_
  refine ev_iast (ev_dt dt_Rows_add_0 8 rfl) hR.2.1 (by omega) (by decide) ?_
  refine ev_aload_0 (ev_dt dt_Rows_add_0 9 rfl) ?_
  refine ev_get (ev_dt dt_Rows_add_0 10 rfl) g_Rows_17_1 ((ev_up_n (by omega)).trans hR.1) rfl ?_
  refine ev_aload_0 (ev_dt dt_Rows_add_0 11 rfl) ?_
  refine ev_get (ev_dt dt_Rows_add_0 12 rfl) g_Rows_20_1 ((ev_up_n (by omega)).trans hR.1) rfl ?_
  refine ev_aald (t := 5) (ev_dt dt_Rows_add_0 13 rfl) rfl rfl ((ev_up_n (by omega)).trans hR.2.2.1) (by omega) (by decide) (rw_v (by omega)) ?_
  refine ev_ic0 (ev_dt dt_Rows_add_0 14 rfl) ?_
  refine ev_iload_1 (ev_dt dt_Rows_add_0 15 rfl) ?_
  refine ev_iast (ev_dt dt_Rows_add_0 16 rfl) ((ev_up_n (by omega)).trans (hR.2.2.2 _ (by omega))) (by omega) (by decide) ?_
  refine ev_aload_0 (ev_dt dt_Rows_add_0 17 rfl) ?_
  refine ev_get (ev_dt dt_Rows_add_0 18 rfl) g_Rows_17_1 ((ev_up_n (by omega)).trans ((ev_up_n (by omega)).trans hR.1)) rfl ?_
  refine ev_aload_0 (ev_dt dt_Rows_add_0 19 rfl) ?_
  refine ev_get (ev_dt dt_Rows_add_0 20 rfl) g_Rows_20_1 ((ev_up_n (by omega)).trans ((ev_up_n (by omega)).trans hR.1)) rfl ?_
  refine ev_aald (t := 5) (ev_dt dt_Rows_add_0 21 rfl) rfl rfl ((ev_up_n (by omega)).trans ((ev_up_n (by omega)).trans hR.2.2.1)) (by omega) (by decide) (rw_v (by omega)) ?_
  refine ev_ic1 (ev_dt dt_Rows_add_0 22 rfl) ?_
  refine ev_iload_2 (ev_dt dt_Rows_add_0 23 rfl) ?_
  refine ev_iast (ev_dt dt_Rows_add_0 24 rfl) ev_up_s (by omega) (by decide) ?_
  refine ev_aload_0 (ev_dt dt_Rows_add_0 25 rfl) ?_
  refine ev_get (ev_dt dt_Rows_add_0 26 rfl) g_Rows_17_1 ((ev_up_n (by omega)).trans ((ev_up_n (by omega)).trans ((ev_up_n (by omega)).trans hR.1))) rfl ?_
  refine ev_aload_0 (ev_dt dt_Rows_add_0 27 rfl) ?_
  refine ev_get (ev_dt dt_Rows_add_0 28 rfl) g_Rows_20_1 ((ev_up_n (by omega)).trans ((ev_up_n (by omega)).trans ((ev_up_n (by omega)).trans hR.1))) rfl ?_
  refine ev_aald (t := 5) (ev_dt dt_Rows_add_0 29 rfl) rfl rfl ((ev_up_n (by omega)).trans ((ev_up_n (by omega)).trans ((ev_up_n (by omega)).trans hR.2.2.1))) (by omega) (by decide) (rw_v (by omega)) ?_
  refine ev_ic2 (ev_dt dt_Rows_add_0 30 rfl) ?_
  refine ev_iload_3 (ev_dt dt_Rows_add_0 31 rfl) ?_
  refine ev_iast (ev_dt dt_Rows_add_0 32 rfl) ev_up_s (by omega) (by decide) ?_
  refine ev_aload_0 (ev_dt dt_Rows_add_0 33 rfl) ?_
  refine ev_get (ev_dt dt_Rows_add_0 34 rfl) g_Rows_17_1 ((ev_up_n (by omega)).trans ((ev_up_n (by omega)).trans ((ev_up_n (by omega)).trans ((ev_up_n (by omega)).trans hR.1)))) rfl ?_
  refine ev_aload_0 (ev_dt dt_Rows_add_0 35 rfl) ?_
  refine ev_get (ev_dt dt_Rows_add_0 36 rfl) g_Rows_20_1 ((ev_up_n (by omega)).trans ((ev_up_n (by omega)).trans ((ev_up_n (by omega)).trans ((ev_up_n (by omega)).trans hR.1)))) rfl ?_
  refine ev_aald (t := 5) (ev_dt dt_Rows_add_0 37 rfl) rfl rfl ((ev_up_n (by omega)).trans ((ev_up_n (by omega)).trans ((ev_up_n (by omega)).trans ((ev_up_n (by omega)).trans hR.2.2.1)))) (by omega) (by decide) (rw_v (by omega)) ?_
  refine ev_ic3 (ev_dt dt_Rows_add_0 38 rfl) ?_
  refine ev_iload_4 (ev_dt dt_Rows_add_0 39 rfl) ?_
  refine ev_iast (ev_dt dt_Rows_add_0 40 rfl) ev_up_s (by omega) (by decide) ?_
  refine ev_aload_0 (ev_dt dt_Rows_add_0 41 rfl) ?_
  refine ev_dup (ev_dt dt_Rows_add_0 42 rfl) rfl ?_
  refine ev_get (ev_dt dt_Rows_add_0 43 rfl) g_Rows_20_1 ((ev_up_n (by omega)).trans ((ev_up_n (by omega)).trans ((ev_up_n (by omega)).trans ((ev_up_n (by omega)).trans ((ev_up_n (by omega)).trans hR.1))))) rfl ?_
  refine ev_ic1 (ev_dt dt_Rows_add_0 44 rfl) ?_
  refine ev_addn (ev_dt dt_Rows_add_0 45 rfl) ?_
  refine ev_put [.ref (r + 1), .ref (r + 2), .int (nI (c + 1)), .int (nI m)] (ev_dt dt_Rows_add_0 46 rfl) p_Rows_20_1 ((ev_up_n (by omega)).trans ((ev_up_n (by omega)).trans ((ev_up_n (by omega)).trans ((ev_up_n (by omega)).trans ((ev_up_n (by omega)).trans hR.1))))) rfl rfl rfl rfl ?_
  refine ev_aload_0 (ev_dt dt_Rows_add_0 47 rfl) ?_
  refine ev_dup (ev_dt dt_Rows_add_0 48 rfl) rfl ?_
  refine ev_get (ev_dt dt_Rows_add_0 49 rfl) g_Rows_24_1 ev_up_s rfl ?_
  refine ev_ic1 (ev_dt dt_Rows_add_0 50 rfl) ?_
  refine ev_addn (ev_dt dt_Rows_add_0 51 rfl) ?_
  refine ev_put [.ref (r + 1), .ref (r + 2), .int (nI (c + 1)), .int (nI (m + 1))] (ev_dt dt_Rows_add_0 52 rfl) p_Rows_24_1 ev_up_s rfl rfl rfl rfl ?_
  refine ev_iload_5 (ev_dt dt_Rows_add_0 53 rfl) ?_
  refine ev_ireturn (ev_dt dt_Rows_add_0 54 rfl) rfl rfl (kk _ ⟨ev_up_s, ((ev_up_n (by omega)).trans ((ev_up_n (by omega)).trans ((ev_up_n (by omega)).trans ((ev_up_n (by omega)).trans ((ev_up_n (by omega)).trans ((ev_up_n (by omega)).trans ev_up_s)))))), ((ev_up_n (by omega)).trans ((ev_up_n (by omega)).trans ((ev_up_n (by omega)).trans ((ev_up_n (by omega)).trans ((ev_up_n (by omega)).trans ((ev_up_n (by omega)).trans ((ev_up_n (by omega)).trans hR.2.2.1))))))), fun i hi => ?_⟩ (fI.tr (fI.tr (fI.tr (fI.tr (fI.tr (fI.tr (fI.tr fI.rf (fI.up (by omega) (by omega))) (fI.up (by omega) (by omega))) (fI.up (by omega) (by omega))) (fI.up (by omega) (by omega))) (fI.up (by omega) (by omega))) (fI.up (by omega) (by omega))) (fI.up (by omega) (by omega))))
  by_cases e : i = c
  · rw [e]; dsimp only; rw [if_pos rfl]; exact ((ev_up_n (by omega)).trans ((ev_up_n (by omega)).trans ev_up_s))
  · dsimp only; rw [if_neg e]; exact ((ev_up_n (by omega)).trans ((ev_up_n (by omega)).trans ((ev_up_n (by omega)).trans ((ev_up_n (by omega)).trans ((ev_up_n (by omega)).trans ((ev_up_n (by omega)).trans ((ev_up_n (by omega)).trans (hR.2.2.2 i hi))))))))
theorem t_Rows_drop {r c m g : Nat} {nu : Nat → Int32} {V : Nat → Nat → Int32} (hc : c < 24) (hg : g ≤ c) (hR : RwAt E r (c + 1) m nu V h) (kk : ∀ h' nu' V', RwAt E r c m nu' V' h' → fI r 27 h h' → (∀ i, i < c → if g ≤ i then nu' i = nu (i + 1) ∧ ∀ l, l < 4 → V' i l = V (i + 1) l else nu' i = nu i ∧ ∀ l, l < 4 → V' i l = V i l) → Q (.returned none) h' sz k n) : Ev E m_Rows_drop (d + 1) 0 [some (.ref r), some (.int (nI g)), none] [] h sz k n Q := by
  have loop : ∀ m' j h' nu' V', j + m' = c → g ≤ j → RwAt E r c m nu' V' h' → fI r 27 h h' → (∀ i, i < 24 → if g ≤ i ∧ i < j then nu' i = nu (i + 1) ∧ ∀ l, l < 4 → V' i l = V (i + 1) l else nu' i = nu i ∧ ∀ l, l < 4 → V' i l = V i l) → Ev E m_Rows_drop (d + 1) 12 [some (.ref r), some (.int (nI g)), some (.int (nI j))] [] h' sz k n Q := by
    intro m'
    induction m' with
    | zero =>
      intro j h' nu' V' hj hgj hR' hF hI
      refine ev_iload_2 (ev_dt dt_Rows_drop_0 8 rfl) ?_
      refine ev_aload_0 (ev_dt dt_Rows_drop_0 9 rfl) ?_
      refine ev_get (ev_dt dt_Rows_drop_0 10 rfl) g_Rows_20_1 hR'.1 rfl ?_
      refine ev_icmp_geT (tgt := 60) (ev_dt dt_Rows_drop_0 11 rfl) (by decide) (nI_le (by omega) (by omega)) ?_
      obtain rfl : j = c := by omega
      exact ev_return (ev_dt dt_Rows_drop_0 38 rfl) rfl (kk h' nu' V' hR' hF (fun i hi => by have := hI i (by omega); simpa [show i < j by omega] using this))
    | succ m' ih =>
      intro j h' nu' V' hj hgj hR' hF hI
      refine ev_iload_2 (ev_dt dt_Rows_drop_0 8 rfl) ?_
      refine ev_aload_0 (ev_dt dt_Rows_drop_0 9 rfl) ?_
      refine ev_get (ev_dt dt_Rows_drop_0 10 rfl) g_Rows_20_1 hR'.1 rfl ?_
      refine ev_icmp_geF (tgt := 60) (ev_dt dt_Rows_drop_0 11 rfl) (by decide) (nI_ge (by omega) (by omega)) ?_
      refine ev_aload_0 (ev_dt dt_Rows_drop_0 12 rfl) ?_
      refine ev_get (ev_dt dt_Rows_drop_0 13 rfl) g_Rows_9_1 hR'.1 rfl ?_
      refine ev_iload_2 (ev_dt dt_Rows_drop_0 14 rfl) ?_
      refine ev_aload_0 (ev_dt dt_Rows_drop_0 15 rfl) ?_
      refine ev_get (ev_dt dt_Rows_drop_0 16 rfl) g_Rows_9_1 hR'.1 rfl ?_
      refine ev_iload_2 (ev_dt dt_Rows_drop_0 17 rfl) ?_
      refine ev_ic1 (ev_dt dt_Rows_drop_0 18 rfl) ?_
      refine ev_addn (ev_dt dt_Rows_drop_0 19 rfl) ?_
      refine ev_iald (ev_dt dt_Rows_drop_0 20 rfl) hR'.2.1 (by omega) (by decide) rfl ?_
      refine ev_iast (ev_dt dt_Rows_drop_0 21 rfl) hR'.2.1 (by omega) (by decide) ?_
      refine ev_aload_0 (ev_dt dt_Rows_drop_0 22 rfl) ?_
      refine ev_get (ev_dt dt_Rows_drop_0 23 rfl) g_Rows_17_1 ((ev_up_n (by omega)).trans hR'.1) rfl ?_
      refine ev_iload_2 (ev_dt dt_Rows_drop_0 24 rfl) ?_
      refine ev_ic1 (ev_dt dt_Rows_drop_0 25 rfl) ?_
      refine ev_addn (ev_dt dt_Rows_drop_0 26 rfl) ?_
      refine ev_aald (t := 5) (ev_dt dt_Rows_drop_0 27 rfl) rfl rfl ((ev_up_n (by omega)).trans hR'.2.2.1) (by omega) (by decide) (rw_v (by omega)) ?_
      refine ev_ic0 (ev_dt dt_Rows_drop_0 28 rfl) ?_
      refine ev_aload_0 (ev_dt dt_Rows_drop_0 29 rfl) ?_
      refine ev_get (ev_dt dt_Rows_drop_0 30 rfl) g_Rows_17_1 ((ev_up_n (by omega)).trans hR'.1) rfl ?_
      refine ev_iload_2 (ev_dt dt_Rows_drop_0 31 rfl) ?_
      refine ev_aald (t := 5) (ev_dt dt_Rows_drop_0 32 rfl) rfl rfl ((ev_up_n (by omega)).trans hR'.2.2.1) (by omega) (by decide) (rw_v (by omega)) ?_
      refine ev_ic0 (ev_dt dt_Rows_drop_0 33 rfl) ?_
      refine ev_ic4 (ev_dt dt_Rows_drop_0 34 rfl) ?_
      refine ev_copy (ev_dt dt_Rows_drop_0 35 rfl) a_Rows_27 ((ev_up_n (by omega)).trans (hR'.2.2.2 _ (by omega))) ((ev_up_n (by omega)).trans (hR'.2.2.2 _ (by omega))) (by decide) (by decide) (by decide) (by decide) rfl ?_
      refine ev_inc1_2 (ev_dt dt_Rows_drop_0 36 rfl) (by decide) rfl ?_
      refine ev_goto (tgt := 12) (ev_dt dt_Rows_drop_0 37 rfl) (by decide) ?_
      refine ih (j + 1) _ (upd nu' j (nu' (j + 1))) (fun i => if i = j then va_cpy (V' (j + 1)) (V' j) 0 0 4 else V' i) (by omega) (by omega) ⟨((ev_up_n (by omega)).trans ((ev_up_n (by omega)).trans hR'.1)), ((ev_up_n (by omega)).trans ev_up_s), ((ev_up_n (by omega)).trans ((ev_up_n (by omega)).trans hR'.2.2.1)), fun i hi => ?_⟩ (fI.tr (fI.tr hF (fI.up (by omega) (by omega))) (fI.up (by omega) (by omega))) (fun i hi => ?_)
      · by_cases e : i = j
        · rw [e]; dsimp only; rw [if_pos rfl]; exact ev_up_s
        · dsimp only; rw [if_neg e]; exact ((ev_up_n (by omega)).trans ((ev_up_n (by omega)).trans (hR'.2.2.2 i hi)))
      · have h0 := hI i hi
        by_cases e : i = j
        · subst e
          have h1 := hI (i + 1) (by omega)
          rw [if_neg (by omega)] at h1
          rw [if_pos ⟨by omega, by omega⟩, pk_us, if_pos rfl]
          refine ⟨h1.1, fun l hl => ?_⟩
          rw [pk_cpy_in (by omega) (by omega), ← h1.2 l hl]
          simp
        · rw [pk_un e, if_neg e]
          by_cases e2 : g ≤ i ∧ i < j
          · rw [if_pos e2] at h0; rw [if_pos ⟨e2.1, by omega⟩]; exact h0
          · rw [if_neg e2] at h0; rw [if_neg (by omega)]; exact h0
  refine ev_aload_0 (ev_dt dt_Rows_drop_0 0 rfl) ?_
  refine ev_dup (ev_dt dt_Rows_drop_0 1 rfl) rfl ?_
  refine ev_get (ev_dt dt_Rows_drop_0 2 rfl) g_Rows_20_1 hR.1 rfl ?_
  refine ev_ic1 (ev_dt dt_Rows_drop_0 3 rfl) ?_
  refine ev_isub (ev_dt dt_Rows_drop_0 4 rfl) (nI_sub1 _) ?_
  refine ev_put [.ref (r + 1), .ref (r + 2), .int (nI c), .int (nI m)] (ev_dt dt_Rows_drop_0 5 rfl) p_Rows_20_1 hR.1 rfl rfl rfl rfl ?_
  refine ev_iload_1 (ev_dt dt_Rows_drop_0 6 rfl) ?_
  refine ev_istore_2 (ev_dt dt_Rows_drop_0 7 rfl) (by decide) rfl ?_
  exact loop (c - g) g _ nu V (by omega) (by omega) ⟨ev_up_s, (ev_up_n (by omega)).trans hR.2.1, (ev_up_n (by omega)).trans hR.2.2.1, fun i hi => (ev_up_n (by omega)).trans (hR.2.2.2 i hi)⟩ (fI.up (by omega) (by omega)) (fun i hi => by rw [if_neg (by omega)]; exact ⟨rfl, fun _ _ => rfl⟩)
theorem CdAt.push {E : ev_E} {a c : Nat} {on op th : Nat → Int32} {x y v : Int32} {h : ev_h} : CdAt E a (c + 1) (upd on c x) (upd op c y) (upd th c v) (ev_up (ev_up (ev_up (ev_up h (a + 1) (iA E 4 (upd on c x))) (a + 2) (iA E 4 (upd op c y))) (a + 3) (iA E 4 (upd th c v))) a (oB 3 [.ref (a + 1), .ref (a + 2), .ref (a + 3), .int (nI (c + 1))])) ∧
    fI a 4 h (ev_up (ev_up (ev_up (ev_up h (a + 1) (iA E 4 (upd on c x))) (a + 2) (iA E 4 (upd op c y))) (a + 3) (iA E 4 (upd th c v))) a (oB 3 [.ref (a + 1), .ref (a + 2), .ref (a + 3), .int (nI (c + 1))])) :=
  ⟨⟨ev_up_s, (ev_up_n (by omega)).trans ((ev_up_n (by omega)).trans ((ev_up_n (by omega)).trans ev_up_s)), (ev_up_n (by omega)).trans ((ev_up_n (by omega)).trans ev_up_s), (ev_up_n (by omega)).trans ev_up_s⟩, (((fI.up (by omega) (by omega)).tr (fI.up (by omega) (by omega))).tr (fI.up (by omega) (by omega))).tr (fI.up (by omega) (by omega))⟩
theorem CdAt.clr {E : ev_E} {a c : Nat} {on op th : Nat → Int32} {h : ev_h} (hL : CdAt E a c on op th h) : CdAt E a 0 on op th (ev_up h a (oB 3 [.ref (a + 1), .ref (a + 2), .ref (a + 3), .int (nI 0)])) ∧ fI a 4 h (ev_up h a (oB 3 [.ref (a + 1), .ref (a + 2), .ref (a + 3), .int (nI 0)])) :=
  ⟨⟨ev_up_s, (ev_up_n (by omega)).trans hL.2.1, (ev_up_n (by omega)).trans hL.2.2.1, (ev_up_n (by omega)).trans hL.2.2.2⟩, fI.up (by omega) (by omega)⟩
theorem t_Conditions_copyFrom {a b c c2 : Nat} {on op th on2 op2 th2 : Nat → Int32} (hc : c2 ≤ 4) (hab : a + 4 ≤ b ∨ b + 4 ≤ a) (hL : CdAt E a c on op th h) (hB : CdAt E b c2 on2 op2 th2 h) (kk : ∀ h' on' op' th', CdAt E a c2 on' op' th' h' → fI a 4 h h' → (∀ i, i < c2 → on' i = on2 i ∧ op' i = op2 i ∧ th' i = th2 i) → Q (.returned none) h' sz k n) : Ev E m_Conditions_copyFrom (d + 1) 0 [some (.ref a), some (.ref b), none] [] h sz k n Q := by
  have loop : ∀ m' j h' on' op' th', j + m' = c2 → CdAt E a j on' op' th' h' → fI a 4 h h' → (∀ i, i < j → on' i = on2 i ∧ op' i = op2 i ∧ th' i = th2 i) → Ev E m_Conditions_copyFrom (d + 1) 6 [some (.ref a), some (.ref b), some (.int (nI j))] [] h' sz k n Q := by
    intro m'
    induction m' with
    | zero =>
      intro j h' on' op' th' hj hL' hF hI
      have hB' : CdAt E b c2 on2 op2 th2 h' := hB.kept (fun z a b => hF z (by omega))
      refine ev_iload_2 (ev_dt dt_Conditions_copyFrom_0 4 rfl) ?_
      refine ev_aload_1 (ev_dt dt_Conditions_copyFrom_0 5 rfl) ?_
      refine ev_get (ev_dt dt_Conditions_copyFrom_0 6 rfl) g_Conditions_21_3 hB'.1 rfl ?_
      refine ev_icmp_geT (tgt := 42) (ev_dt dt_Conditions_copyFrom_0 7 rfl) (by decide) (nI_le (by omega) (by omega)) ?_
      obtain rfl : j = c2 := by omega
      exact ev_return (ev_dt dt_Conditions_copyFrom_0 24 rfl) rfl (kk h' on' op' th' hL' hF hI)
    | succ m' ih =>
      intro j h' on' op' th' hj hL' hF hI
      have hB' : CdAt E b c2 on2 op2 th2 h' := hB.kept (fun z a b => hF z (by omega))
      refine ev_iload_2 (ev_dt dt_Conditions_copyFrom_0 4 rfl) ?_
      refine ev_aload_1 (ev_dt dt_Conditions_copyFrom_0 5 rfl) ?_
      refine ev_get (ev_dt dt_Conditions_copyFrom_0 6 rfl) g_Conditions_21_3 hB'.1 rfl ?_
      refine ev_icmp_geF (tgt := 42) (ev_dt dt_Conditions_copyFrom_0 7 rfl) (by decide) (nI_ge (by omega) (by omega)) ?_
      refine ev_aload_0 (ev_dt dt_Conditions_copyFrom_0 8 rfl) ?_
      refine ev_aload_1 (ev_dt dt_Conditions_copyFrom_0 9 rfl) ?_
      refine ev_get (ev_dt dt_Conditions_copyFrom_0 10 rfl) g_Conditions_9_3 hB'.1 rfl ?_
      refine ev_iload_2 (ev_dt dt_Conditions_copyFrom_0 11 rfl) ?_
      refine ev_iald (ev_dt dt_Conditions_copyFrom_0 12 rfl) hB'.2.1 (by omega) (by decide) rfl ?_
      refine ev_aload_1 (ev_dt dt_Conditions_copyFrom_0 13 rfl) ?_
      refine ev_get (ev_dt dt_Conditions_copyFrom_0 14 rfl) g_Conditions_15_3 hB'.1 rfl ?_
      refine ev_iload_2 (ev_dt dt_Conditions_copyFrom_0 15 rfl) ?_
      refine ev_iald (ev_dt dt_Conditions_copyFrom_0 16 rfl) hB'.2.2.1 (by omega) (by decide) rfl ?_
      refine ev_aload_1 (ev_dt dt_Conditions_copyFrom_0 17 rfl) ?_
      refine ev_get (ev_dt dt_Conditions_copyFrom_0 18 rfl) g_Conditions_18_3 hB'.1 rfl ?_
      refine ev_iload_2 (ev_dt dt_Conditions_copyFrom_0 19 rfl) ?_
      refine ev_iald (ev_dt dt_Conditions_copyFrom_0 20 rfl) hB'.2.2.2 (by omega) (by decide) rfl ?_
      refine ev_callV (ev_dt dt_Conditions_copyFrom_0 21 rfl) v_Conditions_28_3 hL'.1 [.int (on2 j), .int (op2 j), .int (th2 j)] rfl np_Conditions_add rfl (ev_lk_of (j := 0) rfl rfl) (t_Conditions_add (by omega) hL' (ev_r0 ?_))
      refine ev_inc1_2 (ev_dt dt_Conditions_copyFrom_0 22 rfl) (by decide) rfl ?_
      refine ev_goto (tgt := 6) (ev_dt dt_Conditions_copyFrom_0 23 rfl) (by decide) ?_
      obtain ⟨hL2, hF2⟩ := CdAt.push (E := E) (a := a) (c := j) (on := on') (op := op') (th := th') (x := on2 j) (y := op2 j) (v := th2 j) (h := h')
      exact ih (j + 1) _ _ _ _ (by omega) hL2 (hF.tr hF2) (fun i hi => by
        by_cases e : i = j
        · rw [e, pk_us, pk_us, pk_us]; exact ⟨rfl, rfl, rfl⟩
        · rw [pk_un e, pk_un e, pk_un e]; exact hI i (by omega))
  refine ev_aload_0 (ev_dt dt_Conditions_copyFrom_0 0 rfl) ?_
  refine ev_callV (ev_dt dt_Conditions_copyFrom_0 1 rfl) v_Conditions_25_3 hL.1 [] rfl np_Conditions_clear rfl (ev_lk_of (j := 0) rfl rfl) (t_Conditions_clear hL (ev_r0 ?_))
  refine ev_ic0 (ev_dt dt_Conditions_copyFrom_0 2 rfl) ?_
  refine ev_istore_2 (ev_dt dt_Conditions_copyFrom_0 3 rfl) (by decide) rfl ?_
  obtain ⟨hL2, hF2⟩ := hL.clr
  exact loop c2 0 _ on op th (by omega) hL2 hF2 (fun i hi => absurd hi (Nat.not_lt_zero _))
theorem t_Question_ask {a b c c2 y : Nat} {s0 : Int32} {x : Value} {on op th on2 op2 th2 : Nat → Int32} (hc : c2 ≤ 4) (hab : b + 4 ≤ a) (ho : h a = some (oB 4 [x, .ref (a + 1), .ref (a + 5), .ref (a + 7), .int s0])) (hL : CdAt E (a + 1) c on op th h) (hB : CdAt E b c2 on2 op2 th2 h) (kk : ∀ h' on' op' th', h' a = some (oB 4 [.ref y, .ref (a + 1), .ref (a + 5), .ref (a + 7), .int (-1)]) → CdAt E (a + 1) c2 on' op' th' h' → fI a 5 h h' → (∀ i, i < c2 → on' i = on2 i ∧ op' i = op2 i ∧ th' i = th2 i) → Q (.returned none) h' sz k n) : Ev E m_Question_ask (d + 2) 0 [some (.ref a), some (.ref y), some (.ref b)] [] h sz k n Q := by
  refine ev_aload_0 (ev_dt dt_Question_ask_0 0 rfl) ?_
  refine ev_aload_1 (ev_dt dt_Question_ask_0 1 rfl) ?_
  refine ev_put [.ref y, .ref (a + 1), .ref (a + 5), .ref (a + 7), .int s0] (ev_dt dt_Question_ask_0 2 rfl) p_Question_9_4 ho rfl rfl rfl rfl ?_
  refine ev_aload_0 (ev_dt dt_Question_ask_0 3 rfl) ?_
  refine ev_get (ev_dt dt_Question_ask_0 4 rfl) g_Question_18_4 ev_up_s rfl ?_
  refine ev_aload_2 (ev_dt dt_Question_ask_0 5 rfl) ?_
  refine ev_callV (ev_dt dt_Question_ask_0 6 rfl) v_Question_36_3 ((ev_up_n (by omega)).trans hL.1) [.ref b] rfl np_Conditions_copyFrom rfl (ev_lk_of (j := 1) rfl rfl) (t_Conditions_copyFrom (d := d) (a := a + 1) hc (by omega) (hL.kept (fun z h1 h2 => ev_up_n (by omega))) (hB.kept (fun z h1 h2 => ev_up_n (by omega))) (fun h1 on' op' th' hL1 hF1 hI => ev_r0 ?_))
  refine ev_aload_0 (ev_dt dt_Question_ask_0 7 rfl) ?_
  refine ev_icm (ev_dt dt_Question_ask_0 8 rfl) ?_
  refine ev_put [.ref y, .ref (a + 1), .ref (a + 5), .ref (a + 7), .int (-1)] (ev_dt dt_Question_ask_0 9 rfl) p_Question_32_4 ((hF1 a (by omega)).trans ev_up_s) rfl rfl rfl rfl ?_
  exact ev_return (ev_dt dt_Question_ask_0 10 rfl) rfl (kk _ on' op' th' ev_up_s (hL1.kept (fun z h1 h2 => ev_up_n (by omega))) (((fI.up (by omega) (by omega)).tr (hF1.wide (by omega) (by omega))).tr (fI.up (by omega) (by omega))) hI)
end C8
