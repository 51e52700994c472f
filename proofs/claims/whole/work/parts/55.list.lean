/-! Groups, the unbeaten (written by gen_c6.py over walk.py). -/
/-- what is left of be when those of other groups are forgotten, up to i, j -/
def gIv (c : Nat) (D : Nat → Nat → Prop) (i j : Nat) (be be' : Nat → Int32) : Prop := ∀ x, x < c → ∀ y, y < 32 → (bt (be' x) y = true ↔ (bt (be x) y = true ∧ ¬ ((x < i ∨ (x = i ∧ y < j)) ∧ y < c ∧ D x y)))
theorem gIv_step {c : Nat} {D : Nat → Nat → Prop} {i j : Nat} {be be' : Nat → Int32} (hc : c ≤ 24) (hj : j < c) (hI : gIv c D i j be be') (hD : D i j) : gIv c D i (j + 1) be (upd be' i (be' i &&& (nI 1 <<< (nI j &&& 31) ^^^ (-1)))) := by
  intro x hx y hy
  by_cases ex : x = i
  · rw [ex, pk_us, b_and, q_not _ hy, q_sh1 (by omega) hy, Bool.and_eq_true, hI i (by omega) y hy]
    by_cases ey : y = j
    · rw [ey]
      constructor
      · rintro ⟨-, q⟩; simp at q
      · rintro ⟨-, q⟩; exact absurd ⟨Or.inr ⟨rfl, by omega⟩, hj, hD⟩ q
    · constructor
      · rintro ⟨⟨q1, q2⟩, -⟩
        exact ⟨q1, fun q3 => q2 ⟨by omega, q3.2⟩⟩
      · rintro ⟨q1, q2⟩
        exact ⟨⟨q1, fun q3 => q2 ⟨by omega, q3.2⟩⟩, by simp [ey]⟩
  · rw [pk_un ex, hI x hx y hy]
    constructor
    · rintro ⟨q1, q2⟩
      exact ⟨q1, fun q3 => q2 ⟨by omega, q3.2⟩⟩
    · rintro ⟨q1, q2⟩
      exact ⟨q1, fun q3 => q2 ⟨by omega, q3.2⟩⟩
theorem gIv_skip {c : Nat} {D : Nat → Nat → Prop} {i j : Nat} {be be' : Nat → Int32} (hI : gIv c D i j be be') (hD : ¬ D i j) : gIv c D i (j + 1) be be' := by
  intro x hx y hy
  rw [hI x hx y hy]
  constructor
  · rintro ⟨q1, q2⟩
    refine ⟨q1, fun q3 => ?_⟩
    by_cases e : x = i ∧ y = j
    · rw [e.1, e.2] at q3; exact hD q3.2.2
    · exact q2 ⟨by omega, q3.2⟩
  · rintro ⟨q1, q2⟩
    exact ⟨q1, fun q3 => q2 ⟨by omega, q3.2⟩⟩
theorem gIv_next {c : Nat} {D : Nat → Nat → Prop} {i : Nat} {be be' : Nat → Int32} (hI : gIv c D i c be be') : gIv c D (i + 1) 0 be be' := by
  intro x hx y hy
  rw [hI x hx y hy]
  constructor
  · rintro ⟨q1, q2⟩
    exact ⟨q1, fun q3 => q2 ⟨by omega, q3.2⟩⟩
  · rintro ⟨q1, q2⟩
    exact ⟨q1, fun q3 => q2 ⟨by omega, q3.2⟩⟩
theorem gIv_0 {c : Nat} {D : Nat → Nat → Prop} {be : Nat → Int32} : gIv c D 0 0 be be := fun x hx y hy => ⟨fun q => ⟨q, fun q3 => by omega⟩, fun q => q.1⟩
theorem LsAt.push {E : ev_E} {a c : Nat} {f : Nat → Int32} {x : Int32} {h : ev_h} : LsAt E a (c + 1) (upd f c x) (ev_up (ev_up h (a + 1) (iA E 24 (upd f c x))) a (oB 2 [.ref (a + 1), .int (nI (c + 1))])) ∧ fI a 2 h (ev_up (ev_up h (a + 1) (iA E 24 (upd f c x))) a (oB 2 [.ref (a + 1), .int (nI (c + 1))])) :=
  ⟨⟨ev_up_s, (ev_up_n (by omega)).trans ev_up_s⟩, (fI.up (by omega) (by omega)).tr (fI.up (by omega) (by omega))⟩
theorem LsAt.clr {E : ev_E} {a c : Nat} {f : Nat → Int32} {h : ev_h} (hL : LsAt E a c f h) : LsAt E a 0 f (ev_up h a (oB 2 [.ref (a + 1), .int (nI 0)])) ∧ fI a 2 h (ev_up h a (oB 2 [.ref (a + 1), .int (nI 0)])) :=
  ⟨⟨ev_up_s, (ev_up_n (by omega)).trans hL.2⟩, fI.up (by omega) (by omega)⟩
section C6
variable {E : ev_E} {d : Nat} {h : ev_h} {sz k n : Nat} {Q : ev_Q}
theorem t_Contest_forget {r c m cl : Nat} {nu : Nat → Int32} {V : Nat → Nat → Int32} {q : Nat} {pm : Int32} {be le : Nat → Int32} (hc : c ≤ 24) (hcl : cl < 4) (hR : RwAt E r c m nu V h) (hC : CtAt E q pm be le h) (hrq : r + 27 ≤ q) (kk : ∀ h' be', CtAt E q pm be' le h' → fI q 3 h h' → (∀ x, x < c → ∀ y, y < 32 → (bt (be' x) y = true ↔ (bt (be x) y = true ∧ ¬ (y < c ∧ V x cl ≠ V y cl)))) → Q (.returned none) h' sz k n) : Ev E m_Contest_forgetOtherGroups d 0 [some (.ref q), some (.ref r), some (.int (nI cl)), none, none] [] h sz k n Q := by
  have inner : ∀ i, i < c → (∀ h1 be1, CtAt E q pm be1 le h1 → fI q 3 h h1 → gIv c (fun x y => V x cl ≠ V y cl) i c be be1 → Ev E m_Contest_forgetOtherGroups d 2 [some (.ref q), some (.ref r), some (.int (nI cl)), some (.int (nI (i + 1))), none] [] h1 sz k n Q) → ∀ m' j h' be', j + m' = c → CtAt E q pm be' le h' → fI q 3 h h' → gIv c (fun x y => V x cl ≠ V y cl) i j be be' → Ev E m_Contest_forgetOtherGroups d 13 [some (.ref q), some (.ref r), some (.int (nI cl)), some (.int (nI i)), some (.int (nI j))] [] h' sz k n Q := by
    intro i hi go m'
    induction m' with
    | zero =>
      intro j h' be' hj hC' hF hI
      have hR' : RwAt E r c m nu V h' := hR.kept (fun z a b => hF z (by omega))
      refine ev_iload_4 (ev_dt dt_Contest_forgetOtherGroups_0 8 rfl) ?_
      refine ev_aload_1 (ev_dt dt_Contest_forgetOtherGroups_0 9 rfl) ?_
      refine ev_get (ev_dt dt_Contest_forgetOtherGroups_0 10 rfl) g_Contest_26_1 hR'.1 rfl ?_
      refine ev_icmp_geT (tgt := 63) (ev_dt dt_Contest_forgetOtherGroups_0 11 rfl) (by decide) (nI_le (by omega) (by omega)) ?_
      refine ev_inc1_3 (ev_dt dt_Contest_forgetOtherGroups_0 39 rfl) (by decide) rfl ?_
      refine ev_goto (tgt := 2) (ev_dt dt_Contest_forgetOtherGroups_0 40 rfl) (by decide) ?_
      obtain rfl : j = c := by omega
      refine ev_fg_4 ?_
      exact go h' be' hC' hF hI
    | succ m' ih =>
      intro j h' be' hj hC' hF hI
      have hR' : RwAt E r c m nu V h' := hR.kept (fun z a b => hF z (by omega))
      refine ev_iload_4 (ev_dt dt_Contest_forgetOtherGroups_0 8 rfl) ?_
      refine ev_aload_1 (ev_dt dt_Contest_forgetOtherGroups_0 9 rfl) ?_
      refine ev_get (ev_dt dt_Contest_forgetOtherGroups_0 10 rfl) g_Contest_26_1 hR'.1 rfl ?_
      refine ev_icmp_geF (tgt := 63) (ev_dt dt_Contest_forgetOtherGroups_0 11 rfl) (by decide) (nI_ge (by omega) (by omega)) ?_
      refine ev_aload_1 (ev_dt dt_Contest_forgetOtherGroups_0 12 rfl) ?_
      refine ev_get (ev_dt dt_Contest_forgetOtherGroups_0 13 rfl) g_Contest_35_1 hR'.1 rfl ?_
      refine ev_iload_3 (ev_dt dt_Contest_forgetOtherGroups_0 14 rfl) ?_
      refine ev_aald (t := 5) (ev_dt dt_Contest_forgetOtherGroups_0 15 rfl) rfl rfl hR'.2.2.1 (by omega) (by decide) (rw_v (by omega)) ?_
      refine ev_iload_2 (ev_dt dt_Contest_forgetOtherGroups_0 16 rfl) ?_
      refine ev_iald (ev_dt dt_Contest_forgetOtherGroups_0 17 rfl) (hR'.2.2.2 _ (by omega)) (by omega) (by decide) rfl ?_
      refine ev_aload_1 (ev_dt dt_Contest_forgetOtherGroups_0 18 rfl) ?_
      refine ev_get (ev_dt dt_Contest_forgetOtherGroups_0 19 rfl) g_Contest_35_1 hR'.1 rfl ?_
      refine ev_iload_4 (ev_dt dt_Contest_forgetOtherGroups_0 20 rfl) ?_
      refine ev_aald (t := 5) (ev_dt dt_Contest_forgetOtherGroups_0 21 rfl) rfl rfl hR'.2.2.1 (by omega) (by decide) (rw_v (by omega)) ?_
      refine ev_iload_2 (ev_dt dt_Contest_forgetOtherGroups_0 22 rfl) ?_
      refine ev_iald (ev_dt dt_Contest_forgetOtherGroups_0 23 rfl) (hR'.2.2.2 _ (by omega)) (by omega) (by decide) rfl ?_
      refine ev_icmp_eq (tgt := 57) (ev_dt dt_Contest_forgetOtherGroups_0 24 rfl) (by decide) (fun hD => ?_) (fun hD => ?_)
      · refine ev_inc1_4 (ev_dt dt_Contest_forgetOtherGroups_0 37 rfl) (by decide) rfl ?_
        refine ev_goto (tgt := 13) (ev_dt dt_Contest_forgetOtherGroups_0 38 rfl) (by decide) ?_
        exact ih (j + 1) h' be' (by omega) hC' hF (gIv_skip hI (fun e => e hD))
      · refine ev_aload_0 (ev_dt dt_Contest_forgetOtherGroups_0 25 rfl) ?_
        refine ev_get (ev_dt dt_Contest_forgetOtherGroups_0 26 rfl) g_Contest_9_5 hC'.1 rfl ?_
        refine ev_iload_3 (ev_dt dt_Contest_forgetOtherGroups_0 27 rfl) ?_
        refine ev_dup2 (ev_dt dt_Contest_forgetOtherGroups_0 28 rfl) rfl rfl ?_
        refine ev_iald (ev_dt dt_Contest_forgetOtherGroups_0 29 rfl) hC'.2.1 (by omega) (by decide) rfl ?_
        refine ev_ic1 (ev_dt dt_Contest_forgetOtherGroups_0 30 rfl) ?_
        refine ev_iload_4 (ev_dt dt_Contest_forgetOtherGroups_0 31 rfl) ?_
        refine ev_ishl (ev_dt dt_Contest_forgetOtherGroups_0 32 rfl) rfl ?_
        refine ev_icm (ev_dt dt_Contest_forgetOtherGroups_0 33 rfl) ?_
        refine ev_ixor (ev_dt dt_Contest_forgetOtherGroups_0 34 rfl) rfl ?_
        refine ev_iand (ev_dt dt_Contest_forgetOtherGroups_0 35 rfl) rfl ?_
        refine ev_iast (ev_dt dt_Contest_forgetOtherGroups_0 36 rfl) hC'.2.1 (by omega) (by decide) ?_
        refine ev_inc1_4 (ev_dt dt_Contest_forgetOtherGroups_0 37 rfl) (by decide) rfl ?_
        refine ev_goto (tgt := 13) (ev_dt dt_Contest_forgetOtherGroups_0 38 rfl) (by decide) ?_
        obtain ⟨hC2, hF2⟩ := hC'.setB (upd be' i (be' i &&& (nI 1 <<< (nI j &&& 31) ^^^ (-1))))
        exact ih (j + 1) _ _ (by omega) hC2 (hF.tr hF2) (gIv_step hc (by omega) hI hD)
  have outer : ∀ m' i h' be', i + m' = c → CtAt E q pm be' le h' → fI q 3 h h' → gIv c (fun x y => V x cl ≠ V y cl) i 0 be be' → Ev E m_Contest_forgetOtherGroups d 2 [some (.ref q), some (.ref r), some (.int (nI cl)), some (.int (nI i)), none] [] h' sz k n Q := by
    intro m'
    induction m' with
    | zero =>
      intro i h' be' hi hC' hF hI
      have hR' : RwAt E r c m nu V h' := hR.kept (fun z a b => hF z (by omega))
      refine ev_iload_3 (ev_dt dt_Contest_forgetOtherGroups_0 2 rfl) ?_
      refine ev_aload_1 (ev_dt dt_Contest_forgetOtherGroups_0 3 rfl) ?_
      refine ev_get (ev_dt dt_Contest_forgetOtherGroups_0 4 rfl) g_Contest_26_1 hR'.1 rfl ?_
      refine ev_icmp_geT (tgt := 69) (ev_dt dt_Contest_forgetOtherGroups_0 5 rfl) (by decide) (nI_le (by omega) (by omega)) ?_
      exact ev_return (ev_dt dt_Contest_forgetOtherGroups_0 41 rfl) rfl (kk h' be' hC' hF (fun x hx y hy => by rw [hI x hx y hy]; constructor <;> (rintro ⟨q1, q2⟩; exact ⟨q1, fun q3 => q2 (by first | exact ⟨by omega, q3⟩ | exact q3.2)⟩)))
    | succ m' ih =>
      intro i h' be' hi hC' hF hI
      have hR' : RwAt E r c m nu V h' := hR.kept (fun z a b => hF z (by omega))
      refine ev_iload_3 (ev_dt dt_Contest_forgetOtherGroups_0 2 rfl) ?_
      refine ev_aload_1 (ev_dt dt_Contest_forgetOtherGroups_0 3 rfl) ?_
      refine ev_get (ev_dt dt_Contest_forgetOtherGroups_0 4 rfl) g_Contest_26_1 hR'.1 rfl ?_
      refine ev_icmp_geF (tgt := 69) (ev_dt dt_Contest_forgetOtherGroups_0 5 rfl) (by decide) (nI_ge (by omega) (by omega)) ?_
      refine ev_ic0 (ev_dt dt_Contest_forgetOtherGroups_0 6 rfl) ?_
      refine ev_istore_4 (ev_dt dt_Contest_forgetOtherGroups_0 7 rfl) (by decide) rfl ?_
      exact inner i (by omega) (fun h1 be1 hC1 hF1 hI1 => ih (i + 1) h1 be1 (by omega) hC1 hF1 (gIv_next hI1)) c 0 h' be' (by omega) hC' hF hI
  refine ev_ic0 (ev_dt dt_Contest_forgetOtherGroups_0 0 rfl) ?_
  refine ev_istore_3 (ev_dt dt_Contest_forgetOtherGroups_0 1 rfl) (by decide) rfl ?_
  exact outer c 0 h be (by omega) hC fI.rf gIv_0
theorem t_Contest_listUnbeaten {r c m l c0 : Nat} {nu f0 : Nat → Int32} {V : Nat → Nat → Int32} {q : Nat} {pm : Int32} {be le : Nat → Int32} (hc : c ≤ 24) (hR : RwAt E r c m nu V h) (hC : CtAt E q pm be le h) (hL : LsAt E l c0 f0 h) (hrl : r + 27 ≤ l) (hql : q + 3 ≤ l) (kk : ∀ h' c' f' π, LsAt E l c' f' h' → fI l 2 h h' → en c' π (fun i => bt pm i && decide (be i = 0)) c → (∀ i, i < c' → f' i = nu (π i)) → Q (.returned none) h' sz k n) : Ev E m_Contest_listUnbeaten (d + 1) 0 [some (.ref q), some (.ref r), some (.ref l), none] [] h sz k n Q := by
  have loop : ∀ m' j h' c' f' π, j + m' = c → LsAt E l c' f' h' → fI l 2 h h' → en c' π (fun i => bt pm i && decide (be i = 0)) j → (∀ i, i < c' → f' i = nu (π i)) → Ev E m_Contest_listUnbeaten (d + 1) 6 [some (.ref q), some (.ref r), some (.ref l), some (.int (nI j))] [] h' sz k n Q := by
    intro m'
    induction m' with
    | zero =>
      intro j h' c' f' π hj hL' hF hE hf
      have hR' : RwAt E r c m nu V h' := hR.kept (fun z a b => hF z (by omega))
      have hC' : CtAt E q pm be le h' := hC.kept (fun z a b => hF z (by omega))
      refine ev_iload_3 (ev_dt dt_Contest_listUnbeaten_0 4 rfl) ?_
      refine ev_aload_1 (ev_dt dt_Contest_listUnbeaten_0 5 rfl) ?_
      refine ev_get (ev_dt dt_Contest_listUnbeaten_0 6 rfl) g_Contest_26_1 hR'.1 rfl ?_
      refine ev_icmp_geT (tgt := 50) (ev_dt dt_Contest_listUnbeaten_0 7 rfl) (by decide) (nI_le (by omega) (by omega)) ?_
      obtain rfl : j = c := by omega
      exact ev_return (ev_dt dt_Contest_listUnbeaten_0 26 rfl) rfl (kk h' c' f' π hL' hF hE hf)
    | succ m' ih =>
      intro j h' c' f' π hj hL' hF hE hf
      have hR' : RwAt E r c m nu V h' := hR.kept (fun z a b => hF z (by omega))
      have hC' : CtAt E q pm be le h' := hC.kept (fun z a b => hF z (by omega))
      refine ev_iload_3 (ev_dt dt_Contest_listUnbeaten_0 4 rfl) ?_
      refine ev_aload_1 (ev_dt dt_Contest_listUnbeaten_0 5 rfl) ?_
      refine ev_get (ev_dt dt_Contest_listUnbeaten_0 6 rfl) g_Contest_26_1 hR'.1 rfl ?_
      refine ev_icmp_geF (tgt := 50) (ev_dt dt_Contest_listUnbeaten_0 7 rfl) (by decide) (nI_ge (by omega) (by omega)) ?_
      refine ev_aload_0 (ev_dt dt_Contest_listUnbeaten_0 8 rfl) ?_
      refine ev_get (ev_dt dt_Contest_listUnbeaten_0 9 rfl) g_Contest_18_5 hC'.1 rfl ?_
      refine ev_iload_3 (ev_dt dt_Contest_listUnbeaten_0 10 rfl) ?_
      refine ev_callS (ev_dt dt_Contest_listUnbeaten_0 11 rfl) s_Contest_31 [.int pm, .int (nI j)] rfl np_Contest_isIn rfl (ev_lk_of (j := 0) rfl rfl) (t_Contest_isIn (by omega) (fun hx => ev_r1 ?_) (fun hx => ev_r1 ?_))
      · refine ev_if_eqF (tgt := 44) (ev_dt dt_Contest_listUnbeaten_0 12 rfl) (by decide) z10 ?_
        refine ev_aload_0 (ev_dt dt_Contest_listUnbeaten_0 13 rfl) ?_
        refine ev_get (ev_dt dt_Contest_listUnbeaten_0 14 rfl) g_Contest_9_5 hC'.1 rfl ?_
        refine ev_iload_3 (ev_dt dt_Contest_listUnbeaten_0 15 rfl) ?_
        refine ev_iald (ev_dt dt_Contest_listUnbeaten_0 16 rfl) hC'.2.1 (by omega) (by decide) rfl ?_
        refine ev_if_ne (tgt := 44) (ev_dt dt_Contest_listUnbeaten_0 17 rfl) (by decide) (fun hz => ?_) (fun hz => ?_)
        · refine ev_inc1_3 (ev_dt dt_Contest_listUnbeaten_0 24 rfl) (by decide) rfl ?_
          refine ev_goto (tgt := 6) (ev_dt dt_Contest_listUnbeaten_0 25 rfl) (by decide) ?_
          exact ih (j + 1) h' c' f' π (by omega) hL' hF (en_skip hE (by simp [hx, hz])) hf
        · refine ev_aload_2 (ev_dt dt_Contest_listUnbeaten_0 18 rfl) ?_
          refine ev_aload_1 (ev_dt dt_Contest_listUnbeaten_0 19 rfl) ?_
          refine ev_get (ev_dt dt_Contest_listUnbeaten_0 20 rfl) g_Contest_60_1 hR'.1 rfl ?_
          refine ev_iload_3 (ev_dt dt_Contest_listUnbeaten_0 21 rfl) ?_
          refine ev_iald (ev_dt dt_Contest_listUnbeaten_0 22 rfl) hR'.2.1 (by omega) (by decide) rfl ?_
          have hc' : c' < 24 := by have := en_total hE; have := cnt_le (fun i => bt pm i && decide (be i = 0)) j; omega
          refine ev_callV (ev_dt dt_Contest_listUnbeaten_0 23 rfl) v_Contest_63_2 hL'.1 [.int (nu j)] rfl np_RowList_add rfl (ev_lk_of (j := 0) rfl rfl) (t_RowList_add hc' hL' (ev_r0 ?_))
          refine ev_inc1_3 (ev_dt dt_Contest_listUnbeaten_0 24 rfl) (by decide) rfl ?_
          refine ev_goto (tgt := 6) (ev_dt dt_Contest_listUnbeaten_0 25 rfl) (by decide) ?_
          obtain ⟨hL2, hF2⟩ := LsAt.push (E := E) (a := l) (c := c') (f := f') (x := nu j) (h := h')
          exact ih (j + 1) _ (c' + 1) _ (fun z => if z = c' then j else π z) (by omega) hL2 (hF.tr hF2) (en_push hE (by simp [hx, hz]) (fun i hi => if_neg (by omega)) (if_pos rfl)) (fun i hi => by
            by_cases e : i = c'
            · rw [e, pk_us, if_pos rfl]
            · rw [pk_un e, if_neg e]; exact hf i (by omega))
      · refine ev_if_eqT (tgt := 44) (ev_dt dt_Contest_listUnbeaten_0 12 rfl) (by decide) z00 ?_
        refine ev_inc1_3 (ev_dt dt_Contest_listUnbeaten_0 24 rfl) (by decide) rfl ?_
        refine ev_goto (tgt := 6) (ev_dt dt_Contest_listUnbeaten_0 25 rfl) (by decide) ?_
        exact ih (j + 1) h' c' f' π (by omega) hL' hF (en_skip hE (by simp [hx])) hf
  refine ev_aload_2 (ev_dt dt_Contest_listUnbeaten_0 0 rfl) ?_
  refine ev_callV (ev_dt dt_Contest_listUnbeaten_0 1 rfl) v_Contest_55_2 hL.1 [] rfl np_RowList_clear rfl (ev_lk_of (j := 0) rfl rfl) (t_RowList_clear hL (ev_r0 ?_))
  refine ev_ic0 (ev_dt dt_Contest_listUnbeaten_0 2 rfl) ?_
  refine ev_istore_3 (ev_dt dt_Contest_listUnbeaten_0 3 rfl) (by decide) rfl ?_
  obtain ⟨hL2, hF2⟩ := hL.clr
  exact loop c 0 _ 0 f0 (fun _ => 0) (by omega) hL2 hF2 en_0 (fun i hi => absurd hi (Nat.not_lt_zero _))
end C6
