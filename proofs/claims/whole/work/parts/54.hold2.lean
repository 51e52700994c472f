/-! The contest: who beats whom, groups, the unbeaten, ranks, the first ones (written by gen_c5.py over walk.py). -/
/-- the pair x, y has been looked at -/
def prd (i j x y : Nat) : Prop := (x < y ∧ (x < i ∨ (x = i ∧ y < j))) ∨ (y < x ∧ (y < i ∨ (y = i ∧ x < j)))
def hIv (c : Nat) (ps : Nat → Bool) (B : Nat → Nat → Bool) (i j : Nat) (be : Nat → Int32) : Prop := ∀ x, x < c → ∀ y, y < 32 → (bt (be x) y = true ↔ (y < c ∧ ps x = true ∧ ps y = true ∧ prd i j x y ∧ B y x = true))
section HIV
variable {c : Nat} {ps : Nat → Bool} {B : Nat → Nat → Bool} {i j : Nat} {be : Nat → Int32}
theorem hIv_step (hc : c ≤ 24) (hij : i < j) (hj : j < c) (hI : hIv c ps B i j be) (v : Fin 4) (hv1 : v = 1 ↔ B i j = true) (hv2 : v = 2 ↔ B j i = true) (pi : ps i = true) (pj : ps j = true) :
    hIv c ps B i (j + 1) (if v = 1 then upd be j (be j ||| nI 1 <<< (nI i &&& 31)) else if v = 2 then upd be i (be i ||| nI 1 <<< (nI j &&& 31)) else be) := by
  intro x hx y hy
  have e1 : bt ((if v = 1 then upd be j (be j ||| nI 1 <<< (nI i &&& 31)) else if v = 2 then upd be i (be i ||| nI 1 <<< (nI j &&& 31)) else be) x) y = true ↔ bt (be x) y = true ∨ (x = j ∧ y = i ∧ v = 1) ∨ (x = i ∧ y = j ∧ v = 2) := by
    by_cases v1 : v = 1
    · rw [if_pos v1]
      by_cases ex : x = j
      · rw [ex, pk_us, b_or, q_sh1 (by omega) hy, Bool.or_eq_true, decide_eq_true_iff]
        constructor
        · rintro (q | q)
          · exact Or.inl q
          · exact Or.inr (Or.inl ⟨rfl, q, v1⟩)
        · rintro (q | ⟨-, q, -⟩ | ⟨-, -, q⟩)
          · exact Or.inl q
          · exact Or.inr q
          · rw [v1] at q; exact absurd q (by decide)
      · rw [pk_un ex]
        constructor
        · exact Or.inl
        · rintro (q | ⟨q, -⟩ | ⟨-, -, q⟩)
          · exact q
          · exact absurd q ex
          · rw [v1] at q; exact absurd q (by decide)
    · rw [if_neg v1]
      by_cases v2 : v = 2
      · rw [if_pos v2]
        by_cases ex : x = i
        · rw [ex, pk_us, b_or, q_sh1 (by omega) hy, Bool.or_eq_true, decide_eq_true_iff]
          constructor
          · rintro (q | q)
            · exact Or.inl q
            · exact Or.inr (Or.inr ⟨rfl, q, v2⟩)
          · rintro (q | ⟨-, -, q⟩ | ⟨-, q, -⟩)
            · exact Or.inl q
            · exact absurd q v1
            · exact Or.inr q
        · rw [pk_un ex]
          constructor
          · exact Or.inl
          · rintro (q | ⟨-, -, q⟩ | ⟨q, -⟩)
            · exact q
            · exact absurd q v1
            · exact absurd q ex
      · rw [if_neg v2]
        constructor
        · exact Or.inl
        · rintro (q | ⟨-, -, q⟩ | ⟨-, -, q⟩)
          · exact q
          · exact absurd q v1
          · exact absurd q v2
  rw [e1, hI x hx y hy]
  constructor
  · rintro (⟨a, b, c1, e, f⟩ | ⟨g1, g2, g⟩ | ⟨g1, g2, g⟩)
    · exact ⟨a, b, c1, by unfold prd at e ⊢; omega, f⟩
    · rw [g1, g2]; exact ⟨by omega, pj, pi, by unfold prd; omega, hv1.mp g⟩
    · rw [g1, g2]; exact ⟨hj, pi, pj, by unfold prd; omega, hv2.mp g⟩
  · rintro ⟨a, b, c1, e, f⟩
    by_cases q1 : x = j ∧ y = i
    · rw [q1.1, q1.2] at f; exact Or.inr (Or.inl ⟨q1.1, q1.2, hv1.mpr f⟩)
    · by_cases q2 : x = i ∧ y = j
      · rw [q2.1, q2.2] at f; exact Or.inr (Or.inr ⟨q2.1, q2.2, hv2.mpr f⟩)
      · exact Or.inl ⟨a, b, c1, by unfold prd at e ⊢; omega, f⟩
theorem hIv_skip (hij : i < j) (hI : hIv c ps B i j be) (hno : ¬ (ps i = true ∧ ps j = true)) : hIv c ps B i (j + 1) be := by
  intro x hx y hy
  rw [hI x hx y hy]
  constructor
  · rintro ⟨a, b, c1, e, f⟩
    exact ⟨a, b, c1, by unfold prd at e ⊢; omega, f⟩
  · rintro ⟨a, b, c1, e, f⟩
    refine ⟨a, b, c1, ?_, f⟩
    by_cases q1 : x = j ∧ y = i
    · rw [q1.1] at b; rw [q1.2] at c1; exact absurd ⟨c1, b⟩ hno
    · by_cases q2 : x = i ∧ y = j
      · rw [q2.1] at b; rw [q2.2] at c1; exact absurd ⟨b, c1⟩ hno
      · unfold prd at e ⊢; omega
theorem hIv_next (hI : hIv c ps B i c be) : hIv c ps B (i + 1) (i + 1 + 1) be := by
  intro x hx y hy
  rw [hI x hx y hy]
  constructor
  · rintro ⟨a, b, c1, e, f⟩
    exact ⟨a, b, c1, by unfold prd at e ⊢; omega, f⟩
  · rintro ⟨a, b, c1, e, f⟩
    exact ⟨a, b, c1, by unfold prd at e ⊢; omega, f⟩
theorem hIv_0 (h : ∀ x, x < c → be x = nI 0) : hIv c ps B 0 (0 + 1) be := by
  intro x hx y hy
  rw [h x hx, q_0]
  constructor
  · intro q; cases q
  · rintro ⟨a, b, c1, e, f⟩
    unfold prd at e; omega
/-- at the end: who beats whom -/
def hEnd (c : Nat) (ps : Nat → Bool) (B : Nat → Nat → Bool) (be : Nat → Int32) : Prop := ∀ x, x < c → ∀ y, y < 32 → (bt (be x) y = true ↔ (y < c ∧ y ≠ x ∧ ps x = true ∧ ps y = true ∧ B y x = true))
theorem hIv_end (hic : c ≤ i) (hI : hIv c ps B i j be) : hEnd c ps B be := by
  intro x hx y hy
  rw [hI x hx y hy]
  constructor
  · rintro ⟨a, b, c1, e, f⟩
    exact ⟨a, by unfold prd at e; omega, b, c1, f⟩
  · rintro ⟨a, e, b, c1, f⟩
    exact ⟨a, b, c1, by unfold prd; omega, f⟩
end HIV
section C5
variable {E : ev_E} {d : Nat} {h : ev_h} {sz k n : Nat} {Q : ev_Q}
theorem t_Contest_hold {r c m : Nat} {nu : Nat → Int32} {V : Nat → Nat → Int32} {q : Nat} {pm : Int32} {be le : Nat → Int32} {a cc : Nat} {on op th : Nat → Int32} {cn co : Nat → Nat} {ps : Nat → Bool} {N : nod} {ed : Nat → Nat → Int32} {zs : Nat → Nat} {cs : Nat → Int32} {ad : Nat → Nat} {nc nd : Nat} (hc : c ≤ 24) (hR : RwAt E r c m nu V h) (hC : CtAt E q pm be le h) (hcc : cc ≤ 4) (hL : CdAt E a cc on op th h) (hon : ∀ i, i < cc → on i = nI (cn i) ∧ cn i < 4) (hop : ∀ i, i < cc → op i = nI (co i) ∧ co i < 6) (hps : ∀ i, i < c → (ps i = true ↔ okC cc cn co th (V i))) (hrq : r + 27 ≤ q) (haq : a + 4 ≤ q ∨ q + 3 ≤ a) (hN : ∀ i, i < nc → NdAt E N ed zs cs ad i h) (hok : okN N nc) (hadr : ∀ i, i < nc → q + 3 ≤ ad i) (hnd : nd < nc) (hd : nd + 5 ≤ d + 2) (kk : ∀ h' pm' be', CtAt E q pm' be' le h' → fI q 3 h h' → (∀ i, i < 32 → bt pm' i = decide (i < c ∧ ps i = true)) → hEnd c ps (fun y x => decide (say N (V y) (V x) nd = 1)) be' → Q (.returned none) h' sz k n) : Ev E m_Contest_hold (d + 3) 0 [some (.ref q), some (.ref r), some (.ref (ad nd)), some (.ref a), none, none] [] h sz k n Q := by
  refine ev_aload_0 (ev_dt dt_Contest_hold_0 0 rfl) ?_
  refine ev_aload_1 (ev_dt dt_Contest_hold_0 1 rfl) ?_
  refine ev_aload_3 (ev_dt dt_Contest_hold_0 2 rfl) ?_
  refine ev_callV (ev_dt dt_Contest_hold_0 3 rfl) v_Contest_22_5 hC.1 [.ref r, .ref a] rfl np_Contest_letIn rfl (ev_lk_of (j := 1) rfl rfl) (t_Contest_letIn (d := d) hc hR hC hcc hL hon hop hps hrq haq (fun h0 pm1 be0 hC0 hF0 hP hB0 => ev_r0 ?_))
  have inner : ∀ i, i < c → (∀ h1 be1, CtAt E q pm1 be1 le h1 → fI q 3 h h1 → hIv c ps (fun y x => decide (say N (V y) (V x) nd = 1)) i c be1 → Ev E m_Contest_hold (d + 3) 9 [some (.ref q), some (.ref r), some (.ref (ad nd)), some (.ref a), some (.int (nI (i + 1))), none] [] h1 sz k n Q) → ∀ m' j h' be', j + m' = c → i < j → CtAt E q pm1 be' le h' → fI q 3 h h' → hIv c ps (fun y x => decide (say N (V y) (V x) nd = 1)) i j be' → Ev E m_Contest_hold (d + 3) 24 [some (.ref q), some (.ref r), some (.ref (ad nd)), some (.ref a), some (.int (nI i)), some (.int (nI j))] [] h' sz k n Q := by
    intro i hi go m'
    induction m' with
    | zero =>
      intro j h' be' hj hij hC' hF hI
      have hR' : RwAt E r c m nu V h' := hR.kept (fun z a b => hF z (by omega))
      have hN' : ∀ i, i < nc → NdAt E N ed zs cs ad i h' := fun i hi => (hN i hi).kept (fun z a b => hF z (by have := hadr i hi; omega))
      refine ev_iload_5 (ev_dt dt_Contest_hold_0 14 rfl) ?_
      refine ev_aload_1 (ev_dt dt_Contest_hold_0 15 rfl) ?_
      refine ev_get (ev_dt dt_Contest_hold_0 16 rfl) g_Contest_26_1 hR'.1 rfl ?_
      refine ev_icmp_geT (tgt := 89) (ev_dt dt_Contest_hold_0 17 rfl) (by decide) (nI_le (by omega) (by omega)) ?_
      refine ev_inc1_4 (ev_dt dt_Contest_hold_0 44 rfl) (by decide) rfl ?_
      refine ev_goto (tgt := 9) (ev_dt dt_Contest_hold_0 45 rfl) (by decide) ?_
      obtain rfl : j = c := by omega
      refine ev_fg_5 ?_
      exact go h' be' hC' hF hI
    | succ m' ih =>
      intro j h' be' hj hij hC' hF hI
      have hR' : RwAt E r c m nu V h' := hR.kept (fun z a b => hF z (by omega))
      have hN' : ∀ i, i < nc → NdAt E N ed zs cs ad i h' := fun i hi => (hN i hi).kept (fun z a b => hF z (by have := hadr i hi; omega))
      refine ev_iload_5 (ev_dt dt_Contest_hold_0 14 rfl) ?_
      refine ev_aload_1 (ev_dt dt_Contest_hold_0 15 rfl) ?_
      refine ev_get (ev_dt dt_Contest_hold_0 16 rfl) g_Contest_26_1 hR'.1 rfl ?_
      refine ev_icmp_geF (tgt := 89) (ev_dt dt_Contest_hold_0 17 rfl) (by decide) (nI_ge (by omega) (by omega)) ?_
      refine ev_aload_0 (ev_dt dt_Contest_hold_0 18 rfl) ?_
      refine ev_get (ev_dt dt_Contest_hold_0 19 rfl) g_Contest_18_5 hC'.1 rfl ?_
      refine ev_iload_4 (ev_dt dt_Contest_hold_0 20 rfl) ?_
      refine ev_callS (ev_dt dt_Contest_hold_0 21 rfl) s_Contest_31 [.int pm1, .int (nI i)] rfl np_Contest_isIn rfl (ev_lk_of (j := 0) rfl rfl) (t_Contest_isIn (by omega) (fun hx => ev_r1 ?_) (fun hx => ev_r1 ?_))
      · refine ev_if_eqF (tgt := 83) (ev_dt dt_Contest_hold_0 22 rfl) (by decide) z10 ?_
        refine ev_aload_0 (ev_dt dt_Contest_hold_0 23 rfl) ?_
        refine ev_get (ev_dt dt_Contest_hold_0 24 rfl) g_Contest_18_5 hC'.1 rfl ?_
        refine ev_iload_5 (ev_dt dt_Contest_hold_0 25 rfl) ?_
        refine ev_callS (ev_dt dt_Contest_hold_0 26 rfl) s_Contest_31 [.int pm1, .int (nI j)] rfl np_Contest_isIn rfl (ev_lk_of (j := 0) rfl rfl) (t_Contest_isIn (by omega) (fun hx2 => ev_r1 ?_) (fun hx2 => ev_r1 ?_))
        · refine ev_if_eqF (tgt := 83) (ev_dt dt_Contest_hold_0 27 rfl) (by decide) z10 ?_
          refine ev_aload_0 (ev_dt dt_Contest_hold_0 28 rfl) ?_
          refine ev_iload_4 (ev_dt dt_Contest_hold_0 29 rfl) ?_
          refine ev_iload_5 (ev_dt dt_Contest_hold_0 30 rfl) ?_
          refine ev_aload_2 (ev_dt dt_Contest_hold_0 31 rfl) ?_
          refine ev_aload_1 (ev_dt dt_Contest_hold_0 32 rfl) ?_
          refine ev_get (ev_dt dt_Contest_hold_0 33 rfl) g_Contest_35_1 hR'.1 rfl ?_
          refine ev_iload_4 (ev_dt dt_Contest_hold_0 34 rfl) ?_
          refine ev_aald (t := 5) (ev_dt dt_Contest_hold_0 35 rfl) rfl rfl hR'.2.2.1 (by omega) (by decide) (rw_v (by omega)) ?_
          refine ev_aload_1 (ev_dt dt_Contest_hold_0 36 rfl) ?_
          refine ev_get (ev_dt dt_Contest_hold_0 37 rfl) g_Contest_35_1 hR'.1 rfl ?_
          refine ev_iload_5 (ev_dt dt_Contest_hold_0 38 rfl) ?_
          refine ev_aald (t := 5) (ev_dt dt_Contest_hold_0 39 rfl) rfl rfl hR'.2.2.1 (by omega) (by decide) (rw_v (by omega)) ?_
          refine ev_saysG (d := d + 2) (ev_dt dt_Contest_hold_0 40 rfl) u_Contest_39_6 u_Contest_39_7 u_Contest_39_8 u_Contest_39_9 (hN' nd hnd) rfl (t_says hN' (hR'.2.2.2 i (by omega)) (hR'.2.2.2 j (by omega)) nd hnd _ hd) ?_
          refine ev_callV (ev_dt dt_Contest_hold_0 41 rfl) v_Contest_45_5 hC'.1 [.int (nI i), .int (nI j), .int (nI (say N (V i) (V j) nd).val)] rfl np_Contest_note rfl (ev_lk_of (j := 0) rfl rfl) (t_Contest_note (by omega) (by omega) hC' (fun h2 be2 hC2 hF2 hbe => ev_r0 ?_))
          refine ev_inc1_5 (ev_dt dt_Contest_hold_0 42 rfl) (by decide) rfl ?_
          refine ev_goto (tgt := 24) (ev_dt dt_Contest_hold_0 43 rfl) (by decide) ?_
          have pi : ps i = true := by rw [hP i (by omega)] at hx; exact (of_decide_eq_true hx).2
          have pj : ps j = true := by rw [hP j (by omega)] at hx2; exact (of_decide_eq_true hx2).2
          refine ih (j + 1) h2 be2 (by omega) (by omega) hC2 (hF.tr hF2) ?_
          rw [hbe]
          refine hIv_step hc hij (by omega) hI _ ?_ ?_ pi pj
          · simp only [decide_eq_true_iff]
          · rw [decide_eq_true_iff, say_fl hok (V i) (V j) nd hnd]; exact fl_1.symm
        · refine ev_if_eqT (tgt := 83) (ev_dt dt_Contest_hold_0 27 rfl) (by decide) z00 ?_
          refine ev_inc1_5 (ev_dt dt_Contest_hold_0 42 rfl) (by decide) rfl ?_
          refine ev_goto (tgt := 24) (ev_dt dt_Contest_hold_0 43 rfl) (by decide) ?_
          exact ih (j + 1) h' be' (by omega) (by omega) hC' hF (hIv_skip hij hI (fun e => by rw [hP j (by omega)] at hx2; exact of_decide_eq_false hx2 ⟨by omega, e.2⟩))
      · refine ev_if_eqT (tgt := 83) (ev_dt dt_Contest_hold_0 22 rfl) (by decide) z00 ?_
        refine ev_inc1_5 (ev_dt dt_Contest_hold_0 42 rfl) (by decide) rfl ?_
        refine ev_goto (tgt := 24) (ev_dt dt_Contest_hold_0 43 rfl) (by decide) ?_
        exact ih (j + 1) h' be' (by omega) (by omega) hC' hF (hIv_skip hij hI (fun e => by rw [hP i (by omega)] at hx; exact of_decide_eq_false hx ⟨by omega, e.1⟩))
  have outer : ∀ m' i h' be', i + m' = c → CtAt E q pm1 be' le h' → fI q 3 h h' → hIv c ps (fun y x => decide (say N (V y) (V x) nd = 1)) i (i + 1) be' → Ev E m_Contest_hold (d + 3) 9 [some (.ref q), some (.ref r), some (.ref (ad nd)), some (.ref a), some (.int (nI i)), none] [] h' sz k n Q := by
    intro m'
    induction m' with
    | zero =>
      intro i h' be' hi hC' hF hI
      have hR' : RwAt E r c m nu V h' := hR.kept (fun z a b => hF z (by omega))
      have hN' : ∀ i, i < nc → NdAt E N ed zs cs ad i h' := fun i hi => (hN i hi).kept (fun z a b => hF z (by have := hadr i hi; omega))
      refine ev_iload_4 (ev_dt dt_Contest_hold_0 6 rfl) ?_
      refine ev_aload_1 (ev_dt dt_Contest_hold_0 7 rfl) ?_
      refine ev_get (ev_dt dt_Contest_hold_0 8 rfl) g_Contest_26_1 hR'.1 rfl ?_
      refine ev_icmp_geT (tgt := 95) (ev_dt dt_Contest_hold_0 9 rfl) (by decide) (nI_le (by omega) (by omega)) ?_
      exact ev_return (ev_dt dt_Contest_hold_0 46 rfl) rfl (kk h' pm1 be' hC' hF hP (hIv_end (by omega) hI))
    | succ m' ih =>
      intro i h' be' hi hC' hF hI
      have hR' : RwAt E r c m nu V h' := hR.kept (fun z a b => hF z (by omega))
      have hN' : ∀ i, i < nc → NdAt E N ed zs cs ad i h' := fun i hi => (hN i hi).kept (fun z a b => hF z (by have := hadr i hi; omega))
      refine ev_iload_4 (ev_dt dt_Contest_hold_0 6 rfl) ?_
      refine ev_aload_1 (ev_dt dt_Contest_hold_0 7 rfl) ?_
      refine ev_get (ev_dt dt_Contest_hold_0 8 rfl) g_Contest_26_1 hR'.1 rfl ?_
      refine ev_icmp_geF (tgt := 95) (ev_dt dt_Contest_hold_0 9 rfl) (by decide) (nI_ge (by omega) (by omega)) ?_
      refine ev_iload_4 (ev_dt dt_Contest_hold_0 10 rfl) ?_
      refine ev_ic1 (ev_dt dt_Contest_hold_0 11 rfl) ?_
      refine ev_addn (ev_dt dt_Contest_hold_0 12 rfl) ?_
      refine ev_istore_5 (ev_dt dt_Contest_hold_0 13 rfl) (by decide) rfl ?_
      exact inner i (by omega) (fun h1 be1 hC1 hF1 hI1 => ih (i + 1) h1 be1 (by omega) hC1 hF1 (hIv_next hI1)) (c - (i + 1)) (i + 1) h' be' (by omega) (by omega) hC' hF hI
  refine ev_ic0 (ev_dt dt_Contest_hold_0 4 rfl) ?_
  refine ev_istore_4 (ev_dt dt_Contest_hold_0 5 rfl) (by decide) rfl ?_
  exact outer c 0 h0 be0 (by omega) hC0 hF0 (hIv_0 hB0)
end C5
