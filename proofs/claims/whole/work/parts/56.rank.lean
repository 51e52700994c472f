/-! Ranks, the first ones (written by gen_c7.py over walk.py). -/
theorem rank_u {c : Nat} {ps : Nat → Bool} {B : Nat → Nat → Bool} {be : Nat → Int32} {lm u : Int32} {rd : Nat} (hc : c ≤ 24) (hB : okB ps B c) (he : hEnd c ps B be) (hrd : 1 ≤ rd) (hl : ∀ i, i < 32 → bt lm i = decide (i < c ∧ ps i = true ∧ rd ≤ lz ps B c i))
    (hu : ∀ i, i < 32 → bt u i = decide (i < 24 ∧ bt lm i = true ∧ be i &&& lm = 0)) : ∀ i, i < 32 → bt u i = decide (i < c ∧ ps i = true ∧ lz ps B c i = rd) := by
  intro i hi
  rw [hu i hi, decide_eq_decide]
  constructor
  · rintro ⟨h1, h2, h3⟩
    rw [hl i hi, decide_eq_true_iff] at h2
    obtain ⟨g1, g2, g3⟩ := h2
    refine ⟨g1, g2, ?_⟩
    have h4 : lz ps B c i ≤ (rd - 1) + 1 := by
      rw [lz_iff hB g1 g2]
      intro y hy py hb
      by_cases q : lz ps B c y ≤ rd - 1
      · exact q
      · exfalso
        have hne : y ≠ i := by
          rintro rfl
          rw [hB.1 y hy py] at hb; cases hb
        have b1 : bt (be i) y = true := (he i g1 y (by omega)).mpr ⟨hy, hne, g2, py, hb⟩
        have b2 : bt lm y = true := by rw [hl y (by omega), decide_eq_true_iff]; exact ⟨hy, py, by omega⟩
        have b3 : bt (be i &&& lm) y = true := by rw [b_and, b1, b2]; rfl
        rw [h3, b_0] at b3
        cases b3
    omega
  · rintro ⟨g1, g2, g3⟩
    refine ⟨by omega, by rw [hl i hi, decide_eq_true_iff]; exact ⟨g1, g2, by omega⟩, ?_⟩
    refine b_ext fun y hy => ?_
    rw [b_0, b_and]
    cases b1 : bt (be i) y with
    | false => rfl
    | true =>
      cases b2 : bt lm y with
      | false => rfl
      | true =>
        exfalso
        rw [he i g1 y hy] at b1
        rw [hl y hy, decide_eq_true_iff] at b2
        have := lz_lt hB b1.1 g1 b1.2.2.2.1 g2 b1.2.2.2.2
        omega
/-- how many come before (l, i): of a smaller level, or of the level l and a smaller number -/
def rk (lv : Nat → Nat) (c l i : Nat) : Nat := cnt (fun u => decide (1 ≤ lv u ∧ (lv u < l ∨ (lv u = l ∧ u < i)))) c
theorem cnt_one {f g : Nat → Bool} {i : Nat} : ∀ n, i < n → (∀ u, u < n → u ≠ i → f u = g u) → cnt f n + (if g i = true then 1 else 0) = cnt g n + (if f i = true then 1 else 0)
  | 0, hi, _ => absurd hi (Nat.not_lt_zero _)
  | n + 1, hi, h => by
    simp only [cnt]
    by_cases e : i = n
    · subst e
      rw [cnt_congr i (fun u hu => h u (by omega) (by omega))]
      omega
    · have := cnt_one (f := f) (g := g) (i := i) n (by omega) (fun u hu => h u (by omega))
      rw [h n (by omega) (by omega)]
      omega
theorem rk_step {lv : Nat → Nat} {c l i : Nat} (hi : i < c) (hl : 1 ≤ l) : rk lv c l (i + 1) = rk lv c l i + (if lv i = l then 1 else 0) := by
  have h := cnt_one (f := fun u => decide (1 ≤ lv u ∧ (lv u < l ∨ (lv u = l ∧ u < i + 1)))) (g := fun u => decide (1 ≤ lv u ∧ (lv u < l ∨ (lv u = l ∧ u < i)))) (i := i) c hi (fun u _ hu => by
    rw [decide_eq_decide]; constructor <;> (rintro ⟨a, b⟩; exact ⟨a, by omega⟩))
  simp only [decide_eq_true_iff] at h
  unfold rk
  by_cases e : lv i = l
  · rw [if_neg (by omega), if_pos (by omega)] at h
    rw [if_pos e]; omega
  · rw [if_neg e]
    by_cases e2 : 1 ≤ lv i ∧ lv i < l
    · rw [if_pos (by omega), if_pos (by omega)] at h; omega
    · rw [if_neg (by omega), if_neg (by omega)] at h; omega
theorem rk_next {lv : Nat → Nat} {c l : Nat} : rk lv c (l + 1) 0 = rk lv c l c := by
  refine cnt_congr c (fun u hu => ?_)
  rw [decide_eq_decide]; constructor <;> (rintro ⟨a, b⟩; exact ⟨a, by omega⟩)
theorem rk_0 {lv : Nat → Nat} {c : Nat} : rk lv c 1 0 = 0 := by
  have := cnt_flat (S := fun u => decide (1 ≤ lv u ∧ (lv u < 1 ∨ (lv u = 1 ∧ u < 0)))) (m := 0) (n := c) (Nat.zero_le _) (fun r _ _ => decide_eq_false (by omega))
  exact this
theorem rk_mono {lv : Nat → Nat} {c l i j : Nat} (h : i ≤ j) : rk lv c l i ≤ rk lv c l j := cnt_mono c (fun u _ => by simp only [decide_eq_true_iff]; rintro ⟨a, b⟩; exact ⟨a, by omega⟩)
theorem rk_le {lv : Nat → Nat} {c l i : Nat} : rk lv c l i ≤ c := cnt_le _ c
section C7
variable {E : ev_E} {d : Nat} {h : ev_h} {sz k n : Nat} {Q : ev_Q}
theorem t_Contest_rank {q c : Nat} {pm : Int32} {be le : Nat → Int32} {ps : Nat → Bool} {B : Nat → Nat → Bool} (hc : c ≤ 24) (hC : CtAt E q pm be le h) (hP : ∀ i, i < 32 → bt pm i = decide (i < c ∧ ps i = true)) (he : hEnd c ps B be) (hB : okB ps B c) (kk : ∀ h' le', CtAt E q pm be le' h' → fI q 3 h h' → (∀ i, i < 24 → le' i = nI (if i < c ∧ ps i = true then lz ps B c i else 0)) → Q (.returned none) h' sz k n) : Ev E m_Contest_rank (d + 2) 0 [some (.ref q), none, none, none] [] h sz k n Q := by
  have loop : ∀ m' rd h' lm le', rd + m' = 25 → 1 ≤ rd → CtAt E q pm be le' h' → fI q 3 h h' → (∀ i, i < 32 → bt lm i = decide (i < c ∧ ps i = true ∧ rd ≤ lz ps B c i)) → (∀ i, i < 24 → ¬ (i < c ∧ ps i = true) → le' i = nI 0) → (∀ i, i < c → ps i = true → lz ps B c i < rd → le' i = nI (lz ps B c i)) → Ev E m_Contest_rank (d + 2) 18 [some (.ref q), some (.int lm), some (.int (nI rd)), none] [] h' sz k n Q := by
    intro m'
    induction m' with
    | zero =>
      intro rd h' lm le' hrd hr1 hC' hF hl h0 h1
      refine ev_iload_2 (ev_dt dt_Contest_rank_0 12 rfl) ?_
      refine ev_bipush (ev_dt dt_Contest_rank_0 13 rfl) bi_24 ?_
      refine ev_icmp_gtT (tgt := 52) (ev_dt dt_Contest_rank_0 14 rfl) (by decide) (nI_lt (by omega) (by omega)) ?_
      exact ev_return (ev_dt dt_Contest_rank_0 33 rfl) rfl (kk h' le' hC' hF (fun i hi => by
          by_cases e : i < c ∧ ps i = true
          · rw [if_pos e, h1 i e.1 e.2 (by have := lz_le hB e.1 e.2; have := cnt_le ps c; omega)]
          · rw [if_neg e, h0 i hi e]))
    | succ m' ih =>
      intro rd h' lm le' hrd hr1 hC' hF hl h0 h1
      refine ev_iload_2 (ev_dt dt_Contest_rank_0 12 rfl) ?_
      refine ev_bipush (ev_dt dt_Contest_rank_0 13 rfl) bi_24 ?_
      refine ev_icmp_gtF (tgt := 52) (ev_dt dt_Contest_rank_0 14 rfl) (by decide) (nI_nlt (by omega) (by omega)) ?_
      refine ev_iload_1 (ev_dt dt_Contest_rank_0 15 rfl) ?_
      refine ev_if_eq (tgt := 52) (ev_dt dt_Contest_rank_0 16 rfl) (by decide) (fun hz => ?_) (fun hz => ?_)
      · exact ev_return (ev_dt dt_Contest_rank_0 33 rfl) rfl (kk h' le' hC' hF (fun i hi => by
            by_cases e : i < c ∧ ps i = true
            · rw [if_pos e, h1 i e.1 e.2 (by
              by_cases e2 : lz ps B c i < rd
              · exact e2
              · exfalso
                have := hl i (by omega)
                rw [hz, b_0] at this
                exact of_decide_eq_false this.symm ⟨e.1, e.2, by omega⟩)]
            · rw [if_neg e, h0 i hi e]))
      · refine ev_aload_0 (ev_dt dt_Contest_rank_0 17 rfl) ?_
        refine ev_iload_1 (ev_dt dt_Contest_rank_0 18 rfl) ?_
        refine ev_callV (ev_dt dt_Contest_rank_0 19 rfl) v_Contest_71_5 hC'.1 [.int lm] rfl np_Contest_unbeatenAmong rfl (ev_lk_of (j := 2) rfl rfl) (t_Contest_unbeatenAmong (d := d) hC' (fun u hub => ev_r1 ?_))
        refine ev_istore_3 (ev_dt dt_Contest_rank_0 20 rfl) (by decide) rfl ?_
        refine ev_aload_0 (ev_dt dt_Contest_rank_0 21 rfl) ?_
        refine ev_iload_3 (ev_dt dt_Contest_rank_0 22 rfl) ?_
        refine ev_iload_2 (ev_dt dt_Contest_rank_0 23 rfl) ?_
        refine ev_callV (ev_dt dt_Contest_rank_0 24 rfl) v_Contest_67_5 hC'.1 [.int u, .int (nI rd)] rfl np_Contest_setLevel rfl (ev_lk_of (j := 1) rfl rfl) (t_Contest_setLevel (d := d) hC' (fun h2 le2 hC2 hF2 hl2 => ev_r0 ?_))
        refine ev_iload_1 (ev_dt dt_Contest_rank_0 25 rfl) ?_
        refine ev_iload_3 (ev_dt dt_Contest_rank_0 26 rfl) ?_
        refine ev_icm (ev_dt dt_Contest_rank_0 27 rfl) ?_
        refine ev_ixor (ev_dt dt_Contest_rank_0 28 rfl) rfl ?_
        refine ev_iand (ev_dt dt_Contest_rank_0 29 rfl) rfl ?_
        refine ev_istore_1 (ev_dt dt_Contest_rank_0 30 rfl) (by decide) rfl ?_
        refine ev_inc1_2 (ev_dt dt_Contest_rank_0 31 rfl) (by decide) rfl ?_
        refine ev_goto (tgt := 18) (ev_dt dt_Contest_rank_0 32 rfl) (by decide) ?_
        have hu := rank_u hc hB he (by omega) hl hub
        refine ev_fg_3 ?_
        exact ih (rd + 1) h2 _ le2 (by omega) (by omega) hC2 (hF.tr hF2) (fun i hi => by
          rw [b_and, q_not _ hi, hl i hi, hu i hi, ← decide_not, ← Bool.decide_and, decide_eq_decide]
          constructor
          · rintro ⟨⟨a, b, c1⟩, e⟩; exact ⟨a, b, by have : lz ps B c i ≠ rd := fun z => e ⟨a, b, z⟩; omega⟩
          · rintro ⟨a, b, c1⟩; exact ⟨⟨a, b, by omega⟩, fun z => by omega⟩) (fun i hi e => by
          rw [hl2 i hi, if_neg (by rw [hu i (by omega), decide_eq_true_iff]; exact fun z => e ⟨z.1, z.2.1⟩)]; exact h0 i hi e) (fun i hi e1 e2 => by
          rw [hl2 i (by omega), hu i (by omega)]
          by_cases e3 : lz ps B c i = rd
          · rw [if_pos (decide_eq_true ⟨hi, e1, e3⟩), e3]
          · rw [if_neg (by rw [decide_eq_true_iff]; exact fun z => e3 z.2.2)]; exact h1 i hi e1 (by omega))
  refine ev_aload_0 (ev_dt dt_Contest_rank_0 0 rfl) ?_
  refine ev_aload_0 (ev_dt dt_Contest_rank_0 1 rfl) ?_
  refine ev_get (ev_dt dt_Contest_rank_0 2 rfl) g_Contest_18_5 hC.1 rfl ?_
  refine ev_icm (ev_dt dt_Contest_rank_0 3 rfl) ?_
  refine ev_ixor (ev_dt dt_Contest_rank_0 4 rfl) rfl ?_
  refine ev_ic0 (ev_dt dt_Contest_rank_0 5 rfl) ?_
  refine ev_callV (ev_dt dt_Contest_rank_0 6 rfl) v_Contest_67_5 hC.1 [.int (pm ^^^ (-1)), .int (nI 0)] rfl np_Contest_setLevel rfl (ev_lk_of (j := 1) rfl rfl) (t_Contest_setLevel (d := d) hC (fun h1 le1 hC1 hF1 hl1 => ev_r0 ?_))
  refine ev_aload_0 (ev_dt dt_Contest_rank_0 7 rfl) ?_
  refine ev_get (ev_dt dt_Contest_rank_0 8 rfl) g_Contest_18_5 hC1.1 rfl ?_
  refine ev_istore_1 (ev_dt dt_Contest_rank_0 9 rfl) (by decide) rfl ?_
  refine ev_ic1 (ev_dt dt_Contest_rank_0 10 rfl) ?_
  refine ev_istore_2 (ev_dt dt_Contest_rank_0 11 rfl) (by decide) rfl ?_
  exact loop 24 1 h1 pm le1 (by omega) (by omega) hC1 hF1 (fun i hi => by
    rw [hP i hi, decide_eq_decide]
    constructor
    · rintro ⟨a, b⟩; exact ⟨a, b, lz_pos hB a b⟩
    · rintro ⟨a, b, -⟩; exact ⟨a, b⟩) (fun i hi e => by
    rw [hl1 i hi, if_pos (by rw [q_not _ (by omega), hP i (by omega)]; simp only [Bool.not_eq_true', decide_eq_false_iff_not]; exact e)]) (fun i hi e1 e2 => absurd (lz_pos hB hi e1) (by omega))
theorem t_Contest_listFirst {r c m l c0 t : Nat} {nu f0 : Nat → Int32} {V : Nat → Nat → Int32} {q : Nat} {pm : Int32} {be le : Nat → Int32} {lv : Nat → Nat} (hc : c ≤ 24) (ht : t < 2 ^ 31) (hlv : ∀ i, lv i ≤ 65536) (hle : ∀ i, i < c → le i = nI (lv i)) (hR : RwAt E r c m nu V h) (hC : CtAt E q pm be le h) (hL : LsAt E l c0 f0 h) (hrl : r + 27 ≤ l) (hql : q + 3 ≤ l) (kk : ∀ h' c' f', LsAt E l c' f' h' → fI l 2 h h' → c' = min t (rk lv c (c + 1) 0) → (∀ i, i < c' → ∃ u, u < c ∧ 1 ≤ lv u ∧ rk lv c (lv u) u = i ∧ f' i = nu u) → Q (.returned none) h' sz k n) : Ev E m_Contest_listFirst (d + 1) 0 [some (.ref q), some (.ref r), some (.int (nI t)), some (.ref l), none, none] [] h sz k n Q := by
  have inner : ∀ g, 1 ≤ g ∧ g ≤ c → (∀ h1 c1 f1, LsAt E l c1 f1 h1 → fI l 2 h h1 → c1 = min t (rk lv c (g + 1) 0) → (∀ i, i < c1 → ∃ u, u < c ∧ 1 ≤ lv u ∧ rk lv c (lv u) u = i ∧ f1 i = nu u) → Ev E m_Contest_listFirst (d + 1) 7 [some (.ref q), some (.ref r), some (.int (nI t)), some (.ref l), some (.int (nI (g + 1))), none] [] h1 sz k n Q) → ∀ m' j h' c' f', j + m' = c → LsAt E l c' f' h' → fI l 2 h h' → c' = min t (rk lv c g j) → (∀ i, i < c' → ∃ u, u < c ∧ 1 ≤ lv u ∧ rk lv c (lv u) u = i ∧ f' i = nu u) → Ev E m_Contest_listFirst (d + 1) 19 [some (.ref q), some (.ref r), some (.int (nI t)), some (.ref l), some (.int (nI g)), some (.int (nI j))] [] h' sz k n Q := by
    intro g hg2 go m'
    obtain ⟨hg, hg24⟩ := hg2
    induction m' with
    | zero =>
      intro j h' c' f' hj hL' hF hm hf
      have hR' : RwAt E r c m nu V h' := hR.kept (fun z a b => hF z (by omega))
      have hC' : CtAt E q pm be le h' := hC.kept (fun z a b => hF z (by omega))
      have hc24 : c' ≤ 24 := by have := rk_le (lv := lv) (c := c) (l := g) (i := j); omega
      refine ev_iload_5 (ev_dt dt_Contest_listFirst_0 10 rfl) ?_
      refine ev_aload_1 (ev_dt dt_Contest_listFirst_0 11 rfl) ?_
      refine ev_get (ev_dt dt_Contest_listFirst_0 12 rfl) g_Contest_26_1 hR'.1 rfl ?_
      refine ev_icmp_geT (tgt := 65) (ev_dt dt_Contest_listFirst_0 13 rfl) (by decide) (nI_le (by omega) (by omega)) ?_
      refine ev_inc1_4 (ev_dt dt_Contest_listFirst_0 32 rfl) (by decide) rfl ?_
      refine ev_goto (tgt := 7) (ev_dt dt_Contest_listFirst_0 33 rfl) (by decide) ?_
      obtain rfl : j = c := by omega
      refine ev_fg_5 ?_
      exact go h' c' f' hL' hF (by rw [rk_next]; exact hm) hf
    | succ m' ih =>
      intro j h' c' f' hj hL' hF hm hf
      have hR' : RwAt E r c m nu V h' := hR.kept (fun z a b => hF z (by omega))
      have hC' : CtAt E q pm be le h' := hC.kept (fun z a b => hF z (by omega))
      have hc24 : c' ≤ 24 := by have := rk_le (lv := lv) (c := c) (l := g) (i := j); omega
      refine ev_iload_5 (ev_dt dt_Contest_listFirst_0 10 rfl) ?_
      refine ev_aload_1 (ev_dt dt_Contest_listFirst_0 11 rfl) ?_
      refine ev_get (ev_dt dt_Contest_listFirst_0 12 rfl) g_Contest_26_1 hR'.1 rfl ?_
      refine ev_icmp_geF (tgt := 65) (ev_dt dt_Contest_listFirst_0 13 rfl) (by decide) (nI_ge (by omega) (by omega)) ?_
      refine ev_aload_3 (ev_dt dt_Contest_listFirst_0 14 rfl) ?_
      refine ev_get (ev_dt dt_Contest_listFirst_0 15 rfl) g_Contest_75_2 hL'.1 rfl ?_
      refine ev_iload_2 (ev_dt dt_Contest_listFirst_0 16 rfl) ?_
      refine ev_icmp_ge (tgt := 65) (ev_dt dt_Contest_listFirst_0 17 rfl) (by decide) (fun hn => ?_) (fun hn => ?_)
      · refine ev_inc1_4 (ev_dt dt_Contest_listFirst_0 32 rfl) (by decide) rfl ?_
        refine ev_goto (tgt := 7) (ev_dt dt_Contest_listFirst_0 33 rfl) (by decide) ?_
        refine ev_fg_5 ?_
        have hn' : t ≤ c' := (nI_leI (by omega) (by omega)).mp hn
        exact go h' c' f' hL' hF (by have := rk_mono (lv := lv) (c := c) (l := g) (i := j) (j := c) (by omega); rw [rk_next]; omega) hf
      · have hn' : c' < t := by rw [nI_leI (by omega) (by omega)] at hn; omega
        refine ev_aload_0 (ev_dt dt_Contest_listFirst_0 18 rfl) ?_
        refine ev_get (ev_dt dt_Contest_listFirst_0 19 rfl) g_Contest_15_5 hC'.1 rfl ?_
        refine ev_iload_5 (ev_dt dt_Contest_listFirst_0 20 rfl) ?_
        refine ev_iald (ev_dt dt_Contest_listFirst_0 21 rfl) hC'.2.2 (by omega) (by decide) rfl ?_
        refine ev_iload_4 (ev_dt dt_Contest_listFirst_0 22 rfl) ?_
        refine ev_icmp_ne (tgt := 59) (ev_dt dt_Contest_listFirst_0 23 rfl) (by decide) (fun he => ?_) (fun he => ?_)
        · refine ev_inc1_5 (ev_dt dt_Contest_listFirst_0 30 rfl) (by decide) rfl ?_
          refine ev_goto (tgt := 19) (ev_dt dt_Contest_listFirst_0 31 rfl) (by decide) ?_
          have he' : lv j ≠ g := fun e => he (by rw [hle j (by omega), e])
          exact ih (j + 1) h' c' f' (by omega) hL' hF (by rw [rk_step (by omega) hg, if_neg he']; exact hm) hf
        · have he' : lv j = g := by rw [hle j (by omega)] at he; exact (nI_eq (by have := hlv j; omega) (by omega)).mp he
          refine ev_aload_3 (ev_dt dt_Contest_listFirst_0 24 rfl) ?_
          refine ev_aload_1 (ev_dt dt_Contest_listFirst_0 25 rfl) ?_
          refine ev_get (ev_dt dt_Contest_listFirst_0 26 rfl) g_Contest_60_1 hR'.1 rfl ?_
          refine ev_iload_5 (ev_dt dt_Contest_listFirst_0 27 rfl) ?_
          refine ev_iald (ev_dt dt_Contest_listFirst_0 28 rfl) hR'.2.1 (by omega) (by decide) rfl ?_
          have hc' : c' < 24 := by have := rk_le (lv := lv) (c := c) (l := g) (i := j + 1); rw [rk_step (by omega) hg, if_pos he'] at this; omega
          refine ev_callV (ev_dt dt_Contest_listFirst_0 29 rfl) v_Contest_63_2 hL'.1 [.int (nu j)] rfl np_RowList_add rfl (ev_lk_of (j := 0) rfl rfl) (t_RowList_add hc' hL' (ev_r0 ?_))
          refine ev_inc1_5 (ev_dt dt_Contest_listFirst_0 30 rfl) (by decide) rfl ?_
          refine ev_goto (tgt := 19) (ev_dt dt_Contest_listFirst_0 31 rfl) (by decide) ?_
          obtain ⟨hL2, hF2⟩ := LsAt.push (E := E) (a := l) (c := c') (f := f') (x := nu j) (h := h')
          exact ih (j + 1) _ (c' + 1) _ (by omega) hL2 (hF.tr hF2) (by rw [rk_step (by omega) hg, if_pos he']; omega) (fun i hi => by
            by_cases e : i = c'
            · exact ⟨j, by omega, by omega, by rw [he']; omega, by rw [e, pk_us]⟩
            · rw [pk_un e]; exact hf i (by omega))
  have outer : ∀ m' g h' c' f', g + m' = c + 1 → 1 ≤ g → LsAt E l c' f' h' → fI l 2 h h' → c' = min t (rk lv c g 0) → (∀ i, i < c' → ∃ u, u < c ∧ 1 ≤ lv u ∧ rk lv c (lv u) u = i ∧ f' i = nu u) → Ev E m_Contest_listFirst (d + 1) 7 [some (.ref q), some (.ref r), some (.int (nI t)), some (.ref l), some (.int (nI g)), none] [] h' sz k n Q := by
    intro m'
    induction m' with
    | zero =>
      intro g h' c' f' hi hg hL' hF hm hf
      have hR' : RwAt E r c m nu V h' := hR.kept (fun z a b => hF z (by omega))
      have hC' : CtAt E q pm be le h' := hC.kept (fun z a b => hF z (by omega))
      have hc24 : c' ≤ 24 := by have := rk_le (lv := lv) (c := c) (l := g) (i := 0); omega
      refine ev_iload_4 (ev_dt dt_Contest_listFirst_0 4 rfl) ?_
      refine ev_aload_1 (ev_dt dt_Contest_listFirst_0 5 rfl) ?_
      refine ev_get (ev_dt dt_Contest_listFirst_0 6 rfl) g_Contest_26_1 hR'.1 rfl ?_
      refine ev_icmp_gtT (tgt := 71) (ev_dt dt_Contest_listFirst_0 7 rfl) (by decide) (nI_lt (by omega) (by omega)) ?_
      obtain rfl : g = c + 1 := by omega
      exact ev_return (ev_dt dt_Contest_listFirst_0 34 rfl) rfl (kk h' c' f' hL' hF hm hf)
    | succ m' ih =>
      intro g h' c' f' hi hg hL' hF hm hf
      have hR' : RwAt E r c m nu V h' := hR.kept (fun z a b => hF z (by omega))
      have hC' : CtAt E q pm be le h' := hC.kept (fun z a b => hF z (by omega))
      have hc24 : c' ≤ 24 := by have := rk_le (lv := lv) (c := c) (l := g) (i := 0); omega
      refine ev_iload_4 (ev_dt dt_Contest_listFirst_0 4 rfl) ?_
      refine ev_aload_1 (ev_dt dt_Contest_listFirst_0 5 rfl) ?_
      refine ev_get (ev_dt dt_Contest_listFirst_0 6 rfl) g_Contest_26_1 hR'.1 rfl ?_
      refine ev_icmp_gtF (tgt := 71) (ev_dt dt_Contest_listFirst_0 7 rfl) (by decide) (nI_nlt (by omega) (by omega)) ?_
      refine ev_ic0 (ev_dt dt_Contest_listFirst_0 8 rfl) ?_
      refine ev_istore_5 (ev_dt dt_Contest_listFirst_0 9 rfl) (by decide) rfl ?_
      exact inner g (by omega) (fun h1 c1 f1 hL1 hF1 hm1 hf1 => ih (g + 1) h1 c1 f1 (by omega) (by omega) hL1 hF1 hm1 hf1) c 0 h' c' f' (by omega) hL' hF hm hf
  refine ev_aload_3 (ev_dt dt_Contest_listFirst_0 0 rfl) ?_
  refine ev_callV (ev_dt dt_Contest_listFirst_0 1 rfl) v_Contest_55_2 hL.1 [] rfl np_RowList_clear rfl (ev_lk_of (j := 0) rfl rfl) (t_RowList_clear hL (ev_r0 ?_))
  refine ev_ic1 (ev_dt dt_Contest_listFirst_0 2 rfl) ?_
  refine ev_istore_4 (ev_dt dt_Contest_listFirst_0 3 rfl) (by decide) rfl ?_
  obtain ⟨hL2, hF2⟩ := hL.clr
  exact outer c 1 _ 0 f0 (by omega) (by omega) hL2 hF2 (by rw [rk_0]; omega) (fun i hi => absurd hi (Nat.not_lt_zero _))
end C7
