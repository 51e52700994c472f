/-! The class's methods: best, grouped, top, level (written by gen_c15.py over walk.py). -/
/-- who beats whom, by the node nd -/
def bN (N : nod) (V : Nat → Nat → Int32) (nd : Nat) : Nat → Nat → Bool := fun y x => decide (say N (V y) (V x) nd = 1)
/-- and only within a group -/
def bG (N : nod) (V : Nat → Nat → Int32) (nd cl : Nat) : Nat → Nat → Bool := fun y x => decide (V y cl = V x cl) && decide (say N (V y) (V x) nd = 1)
/-- unbeaten among those that pass -/
def ub (c : Nat) (ps : Nat → Bool) (B : Nat → Nat → Bool) (i : Nat) : Bool := ps i && decide (∀ y, y < c → ps y = true → B y i = false)
theorem bN_self {N : nod} {V : Nat → Nat → Int32} {nd nc j : Nat} (hok : okN N nc) (hi : nd < nc) : bN N V nd j j = false := decide_eq_false (fun e => by rw [say_self hok _ nd hi] at e; exact absurd e (by decide))
theorem bG_self {N : nod} {V : Nat → Nat → Int32} {nd nc cl j : Nat} (hok : okN N nc) (hi : nd < nc) : bG N V nd cl j j = false := by
  have := bN_self (V := V) (j := j) hok hi
  unfold bG
  unfold bN at this
  rw [this, Bool.and_false]
theorem ub_of {c : Nat} {ps : Nat → Bool} {B : Nat → Nat → Bool} {pm : Int32} {be : Nat → Int32} (hc : c ≤ 32) (hpm : ∀ i, i < 32 → bt pm i = decide (i < c ∧ ps i = true)) (he : hEnd c ps B be) (hB : ∀ i, i < c → B i i = false) (i : Nat) (hi : i < c) : (bt pm i && decide (be i = 0)) = ub c ps B i := by
  unfold ub
  rw [hpm i (by omega)]
  by_cases hp : ps i = true
  · have e1 : decide (i < c ∧ ps i = true) = true := decide_eq_true ⟨hi, hp⟩
    rw [e1, hp, Bool.true_and, Bool.true_and]
    apply decide_eq_decide.mpr
    rw [← nI_0, q_zero]
    constructor
    · intro h y hy hpy
      by_cases e : y = i
      · subst e; exact hB y hy
      · cases hb : B y i with
        | false => rfl
        | true => exact absurd ((he i hi y (by omega)).mpr ⟨hy, e, hp, hpy, hb⟩) (by rw [h y (by omega)]; decide)
    · intro h y hy
      cases hb : bt (be i) y with
      | false => rfl
      | true =>
        obtain ⟨h1, h2, h3, h4, h5⟩ := (he i hi y hy).mp hb
        rw [h y h1 h4] at h5
        cases h5
  · have e1 : decide (i < c ∧ ps i = true) = false := decide_eq_false (fun q => hp q.2)
    rw [e1, Bool.eq_false_iff.mpr hp, Bool.false_and, Bool.false_and]
theorem hEnd_g {c cl : Nat} {ps : Nat → Bool} {N : nod} {V : Nat → Nat → Int32} {nd : Nat} {be be' : Nat → Int32} (he : hEnd c ps (bN N V nd) be) (hf : ∀ x, x < c → ∀ y, y < 32 → (bt (be' x) y = true ↔ (bt (be x) y = true ∧ ¬ (y < c ∧ V x cl ≠ V y cl)))) : hEnd c ps (bG N V nd cl) be' := by
  intro x hx y hy
  rw [hf x hx y hy, he x hx y hy]
  unfold bG bN
  constructor
  · rintro ⟨⟨a, b, p, q, r⟩, s⟩
    refine ⟨a, b, p, q, ?_⟩
    rw [r, Bool.and_true]
    exact decide_eq_true (Classical.byContradiction fun e => s ⟨a, fun z => e z.symm⟩)
  · rintro ⟨a, b, p, q, r⟩
    rw [Bool.and_eq_true] at r
    exact ⟨⟨a, b, p, q, r.2⟩, fun s => s.2 (of_decide_eq_true r.1).symm⟩
section C15
variable {E : ev_E} {d : Nat} {h : ev_h} {sz k n : Nat} {Q : ev_Q}
variable {X : Nat} {nc al fl c m cc ac : Nat} {nu on op th af ff : Nat → Int32} {V : Nat → Nat → Int32} {qs : Nat → qst} {N : nod} {ed : Nat → Nat → Int32} {zs : Nat → Nat} {cs : Nat → Int32} {ad : Nat → Nat}
theorem t_PT_best {x : Int32} {cn co : Nat → Nat} {ps : Nat → Bool} (hnc : nc ≤ 24) (hc : c ≤ 24) (hcc : cc ≤ 4) (hon : ∀ i, i < cc → on i = nI (cn i) ∧ cn i < 4) (hop : ∀ i, i < cc → op i = nI (co i) ∧ co i < 6) (hps : ∀ i, i < c → (ps i = true ↔ okC cc cn co th (V i))) (hok : okN N nc) (hs : nsp X N ad nc sz) (hP : PtAt E X nc al fl c m nu V cc on op th ac af ff qs N ed zs cs ad h) (kx : (∀ i, i < nc → x ≠ nI i) → ∀ h', PtAt E X nc al fl c m nu V cc on op th ac af ff qs N ed zs cs ad h' → nsp X N ad nc (sz + 1) → cF X h h' → h' sz = some (oB 13 []) → Q (.threw sz) h' (sz + 1) k n) (kk : ∀ i, i < nc → x = nI i → ∀ h' c' f' π, en c' π (ub c ps (bN N V i)) c → (∀ j, j < c' → f' j = nu (π j)) → PtAt E X nc al fl c m nu V cc on op th c' f' ff qs N ed zs cs ad h' → cF X h h' → Q (.returned (some (.int (nI c')))) h' sz k n) : Ev E m_PT_best (d + 60) 0 [some (.ref X), some (.int x)] [] h sz (k + 1) (n + 6) Q := by
  obtain ⟨nf, hn1, hn2⟩ := hP.2.2.1
  obtain ⟨pm, be, le, hT⟩ := hP.2.2.2.2.1
  have hNd := hP.2.2.2.2.2.2.2.2.2.2
  refine ev_aload_0 (ev_dt dt_PT_best_0 0 rfl) ?_
  refine ev_iload_1 (ev_dt dt_PT_best_0 1 rfl) ?_
  refine ev_callV (ev_dt dt_PT_best_0 2 rfl) v_PT_118_0 hP.1 [.int x] rfl np_PT_isNode rfl (ev_lk_of (j := 0) rfl rfl) (t_PT_isNode hnc hP.1 (fun hnode => ev_r1 ?_) (fun hnode => ev_r1 ?_))
  · obtain ⟨i, h_i, rfl⟩ := hnode
    refine ev_if_neT (tgt := 18) (ev_dt dt_PT_best_0 3 rfl) (by decide) z10 ?_
    refine ev_wide (k' := k) (n' := n) (Nat.le_refl _) (Nat.le_add_right _ _) (Nat.le_add_right _ _) ?_
    refine ev_aload_0 (ev_dt dt_PT_best_0 9 rfl) ?_
    refine ev_get (ev_dt dt_PT_best_0 10 rfl) g_PT_36_0 hP.1 rfl ?_
    refine ev_aload_0 (ev_dt dt_PT_best_0 11 rfl) ?_
    refine ev_get (ev_dt dt_PT_best_0 12 rfl) g_PT_12_0 hP.1 rfl ?_
    refine ev_aload_0 (ev_dt dt_PT_best_0 13 rfl) ?_
    refine ev_get (ev_dt dt_PT_best_0 14 rfl) g_PT_18_0 hP.1 rfl ?_
    refine ev_iload_1 (ev_dt dt_PT_best_0 15 rfl) ?_
    refine ev_aald (t := 3) (ev_dt dt_PT_best_0 16 rfl) rfl rfl hn1 (by omega) (by decide) (rf_s (hn2 i h_i)) ?_
    refine ev_aload_0 (ev_dt dt_PT_best_0 17 rfl) ?_
    refine ev_get (ev_dt dt_PT_best_0 18 rfl) g_PT_29_0 hP.1 rfl ?_
    refine ev_callV (ev_dt dt_PT_best_0 19 rfl) v_PT_173_5 hT.1 [.ref (X + 1), .ref (ad i), .ref (X + 29)] rfl np_Contest_hold rfl (ev_lk_of (j := 2) rfl rfl) (t_Contest_hold (nc := nc) (nd := i) hc hP.2.1 hT hcc hP.2.2.2.1 hon hop hps (by omega) (Or.inl (by omega)) (fun i hi => (hNd i hi).1) hok (fun i hi => by have := (hNd i hi).2; omega) h_i (by omega) (fun h1 pm1 be1 hT1 hf1 hpm hbe => ev_r0 ?_))
    have hP1 := hP.setT hT1 hf1
    have hF1 : cF X h h1 := cF.of hf1 (by omega)
    refine ev_aload_0 (ev_dt dt_PT_best_0 20 rfl) ?_
    refine ev_get (ev_dt dt_PT_best_0 21 rfl) g_PT_36_0 hP1.1 rfl ?_
    refine ev_aload_0 (ev_dt dt_PT_best_0 22 rfl) ?_
    refine ev_get (ev_dt dt_PT_best_0 23 rfl) g_PT_12_0 hP1.1 rfl ?_
    refine ev_aload_0 (ev_dt dt_PT_best_0 24 rfl) ?_
    refine ev_get (ev_dt dt_PT_best_0 25 rfl) g_PT_43_0 hP1.1 rfl ?_
    refine ev_callV (ev_dt dt_PT_best_0 26 rfl) v_PT_177_5 hT1.1 [.ref (X + 1), .ref (X + 36)] rfl np_Contest_listUnbeaten rfl (ev_lk_of (j := 1) rfl rfl) (t_Contest_listUnbeaten hc hP1.2.1 hT1 hP1.2.2.2.2.2.1 (by omega) (by omega) (fun h2 c2 f2 π hL2 hf2 hen hfe => ev_r0 ?_))
    have hP2 := hP1.setA hL2 hf2
    refine ev_aload_0 (ev_dt dt_PT_best_0 27 rfl) ?_
    refine ev_get (ev_dt dt_PT_best_0 28 rfl) g_PT_43_0 hP2.1 rfl ?_
    refine ev_get (ev_dt dt_PT_best_0 29 rfl) g_PT_181_2 hL2.1 rfl ?_
    exact ev_ireturn (ev_dt dt_PT_best_0 30 rfl) rfl rfl (kk i h_i rfl _ c2 f2 π (en_congr hen (fun _ _ => rfl) (fun r hr => (ub_of (by omega) hpm hbe (fun j hj => bN_self hok h_i) r hr).symm)) hfe hP2 (hF1.tr (cF.of hf2 (by omega))))
  · refine ev_if_neF (tgt := 18) (ev_dt dt_PT_best_0 3 rfl) (by decide) z00 ?_
    exact ev_throw (ev_dt dt_PT_best_0 4 rfl) (ev_dt dt_PT_best_0 5 rfl) (ev_dt dt_PT_best_0 6 rfl) (ev_dt dt_PT_best_0 7 rfl) (ev_dt dt_PT_best_0 8 rfl) rfl th_PT_171_102 rfl (kx hnode _ (hP.ex hs) hs.up (cF.up (Or.inr hs.1)) ev_up_s)
theorem t_PT_grouped {x y : Int32} {cn co : Nat → Nat} {ps : Nat → Bool} (hnc : nc ≤ 24) (hc : c ≤ 24) (hcc : cc ≤ 4) (hon : ∀ i, i < cc → on i = nI (cn i) ∧ cn i < 4) (hop : ∀ i, i < cc → op i = nI (co i) ∧ co i < 6) (hps : ∀ i, i < c → (ps i = true ↔ okC cc cn co th (V i))) (hok : okN N nc) (hs : nsp X N ad nc sz) (hP : PtAt E X nc al fl c m nu V cc on op th ac af ff qs N ed zs cs ad h) (kx : (∀ i, i < nc → x ≠ nI i) ∨ (∀ l, l < 4 → y ≠ nI l) → ∀ h', PtAt E X nc al fl c m nu V cc on op th ac af ff qs N ed zs cs ad h' → nsp X N ad nc (sz + 1) → cF X h h' → h' sz = some (oB 13 []) → Q (.threw sz) h' (sz + 1) k n) (kk : ∀ i l, i < nc → x = nI i → l < 4 → y = nI l → ∀ h' c' f' π, en c' π (ub c ps (bG N V i l)) c → (∀ j, j < c' → f' j = nu (π j)) → PtAt E X nc al fl c m nu V cc on op th c' f' ff qs N ed zs cs ad h' → cF X h h' → Q (.returned (some (.int (nI c')))) h' sz k n) : Ev E m_PT_grouped (d + 60) 0 [some (.ref X), some (.int x), some (.int y)] [] h sz (k + 1) (n + 6) Q := by
  obtain ⟨nf, hn1, hn2⟩ := hP.2.2.1
  obtain ⟨pm, be, le, hT⟩ := hP.2.2.2.2.1
  have hNd := hP.2.2.2.2.2.2.2.2.2.2
  refine ev_aload_0 (ev_dt dt_PT_grouped_0 0 rfl) ?_
  refine ev_iload_1 (ev_dt dt_PT_grouped_0 1 rfl) ?_
  refine ev_callV (ev_dt dt_PT_grouped_0 2 rfl) v_PT_118_0 hP.1 [.int x] rfl np_PT_isNode rfl (ev_lk_of (j := 0) rfl rfl) (t_PT_isNode hnc hP.1 (fun hnode => ev_r1 ?_) (fun hnode => ev_r1 ?_))
  · obtain ⟨i, h_i, rfl⟩ := hnode
    refine ev_if_eqF (tgt := 15) (ev_dt dt_PT_grouped_0 3 rfl) (by decide) z10 ?_
    refine ev_iload_2 (ev_dt dt_PT_grouped_0 4 rfl) ?_
    refine ev_callS (ev_dt dt_PT_grouped_0 5 rfl) s_PT_86 [.int y] rfl np_PT_isColumn rfl (ev_lk_of (j := 0) rfl rfl) (t_PT_isColumn (fun hcol => ev_r1 ?_) (fun hcol => ev_r1 ?_))
    · obtain ⟨l, hl, rfl⟩ := hcol
      refine ev_if_neT (tgt := 25) (ev_dt dt_PT_grouped_0 6 rfl) (by decide) z10 ?_
      refine ev_wide (k' := k) (n' := n) (Nat.le_refl _) (Nat.le_add_right _ _) (Nat.le_add_right _ _) ?_
      refine ev_aload_0 (ev_dt dt_PT_grouped_0 12 rfl) ?_
      refine ev_get (ev_dt dt_PT_grouped_0 13 rfl) g_PT_36_0 hP.1 rfl ?_
      refine ev_aload_0 (ev_dt dt_PT_grouped_0 14 rfl) ?_
      refine ev_get (ev_dt dt_PT_grouped_0 15 rfl) g_PT_12_0 hP.1 rfl ?_
      refine ev_aload_0 (ev_dt dt_PT_grouped_0 16 rfl) ?_
      refine ev_get (ev_dt dt_PT_grouped_0 17 rfl) g_PT_18_0 hP.1 rfl ?_
      refine ev_iload_1 (ev_dt dt_PT_grouped_0 18 rfl) ?_
      refine ev_aald (t := 3) (ev_dt dt_PT_grouped_0 19 rfl) rfl rfl hn1 (by omega) (by decide) (rf_s (hn2 i h_i)) ?_
      refine ev_aload_0 (ev_dt dt_PT_grouped_0 20 rfl) ?_
      refine ev_get (ev_dt dt_PT_grouped_0 21 rfl) g_PT_29_0 hP.1 rfl ?_
      refine ev_callV (ev_dt dt_PT_grouped_0 22 rfl) v_PT_173_5 hT.1 [.ref (X + 1), .ref (ad i), .ref (X + 29)] rfl np_Contest_hold rfl (ev_lk_of (j := 2) rfl rfl) (t_Contest_hold (nc := nc) (nd := i) hc hP.2.1 hT hcc hP.2.2.2.1 hon hop hps (by omega) (Or.inl (by omega)) (fun i hi => (hNd i hi).1) hok (fun i hi => by have := (hNd i hi).2; omega) h_i (by omega) (fun h1 pm1 be1 hT1 hf1 hpm hbe => ev_r0 ?_))
      have hP1 := hP.setT hT1 hf1
      have hF1 : cF X h h1 := cF.of hf1 (by omega)
      refine ev_aload_0 (ev_dt dt_PT_grouped_0 23 rfl) ?_
      refine ev_get (ev_dt dt_PT_grouped_0 24 rfl) g_PT_36_0 hP1.1 rfl ?_
      refine ev_aload_0 (ev_dt dt_PT_grouped_0 25 rfl) ?_
      refine ev_get (ev_dt dt_PT_grouped_0 26 rfl) g_PT_12_0 hP1.1 rfl ?_
      refine ev_iload_2 (ev_dt dt_PT_grouped_0 27 rfl) ?_
      refine ev_callV (ev_dt dt_PT_grouped_0 28 rfl) v_PT_184_5 hT1.1 [.ref (X + 1), .int (nI l)] rfl np_Contest_forgetOtherGroups rfl (ev_lk_of (j := 2) rfl rfl) (t_Contest_forget (cl := l) hc hl hP1.2.1 hT1 (by omega) (fun h2 be2 hT2 hf2 hbe2 => ev_r0 ?_))
      have hP2 := hP1.setT hT2 hf2
      have hF2 : cF X h h2 := hF1.tr (cF.of hf2 (by omega))
      refine ev_aload_0 (ev_dt dt_PT_grouped_0 29 rfl) ?_
      refine ev_get (ev_dt dt_PT_grouped_0 30 rfl) g_PT_36_0 hP2.1 rfl ?_
      refine ev_aload_0 (ev_dt dt_PT_grouped_0 31 rfl) ?_
      refine ev_get (ev_dt dt_PT_grouped_0 32 rfl) g_PT_12_0 hP2.1 rfl ?_
      refine ev_aload_0 (ev_dt dt_PT_grouped_0 33 rfl) ?_
      refine ev_get (ev_dt dt_PT_grouped_0 34 rfl) g_PT_43_0 hP2.1 rfl ?_
      refine ev_callV (ev_dt dt_PT_grouped_0 35 rfl) v_PT_177_5 hT2.1 [.ref (X + 1), .ref (X + 36)] rfl np_Contest_listUnbeaten rfl (ev_lk_of (j := 1) rfl rfl) (t_Contest_listUnbeaten hc hP2.2.1 hT2 hP2.2.2.2.2.2.1 (by omega) (by omega) (fun h3 c2 f2 π hL2 hf3 hen hfe => ev_r0 ?_))
      have hP3 := hP2.setA hL2 hf3
      refine ev_aload_0 (ev_dt dt_PT_grouped_0 36 rfl) ?_
      refine ev_get (ev_dt dt_PT_grouped_0 37 rfl) g_PT_43_0 hP3.1 rfl ?_
      refine ev_get (ev_dt dt_PT_grouped_0 38 rfl) g_PT_181_2 hL2.1 rfl ?_
      exact ev_ireturn (ev_dt dt_PT_grouped_0 39 rfl) rfl rfl (kk i l h_i rfl hl rfl _ c2 f2 π (en_congr hen (fun _ _ => rfl) (fun r hr => (ub_of (by omega) hpm (hEnd_g hbe hbe2) (fun j hj => bG_self hok h_i) r hr).symm)) hfe hP3 (hF2.tr (cF.of hf3 (by omega))))
    · refine ev_if_neF (tgt := 25) (ev_dt dt_PT_grouped_0 6 rfl) (by decide) z00 ?_
      exact ev_throw (ev_dt dt_PT_grouped_0 7 rfl) (ev_dt dt_PT_grouped_0 8 rfl) (ev_dt dt_PT_grouped_0 9 rfl) (ev_dt dt_PT_grouped_0 10 rfl) (ev_dt dt_PT_grouped_0 11 rfl) rfl th_PT_182_102 rfl (kx (Or.inr hcol) _ (hP.ex hs) hs.up (cF.up (Or.inr hs.1)) ev_up_s)
  · refine ev_if_eqT (tgt := 15) (ev_dt dt_PT_grouped_0 3 rfl) (by decide) z00 ?_
    exact ev_throw (ev_dt dt_PT_grouped_0 7 rfl) (ev_dt dt_PT_grouped_0 8 rfl) (ev_dt dt_PT_grouped_0 9 rfl) (ev_dt dt_PT_grouped_0 10 rfl) (ev_dt dt_PT_grouped_0 11 rfl) rfl th_PT_182_102 rfl (kx (Or.inl hnode) _ (hP.ex hs) hs.up (cF.up (Or.inr hs.1)) ev_up_s)
theorem okB_N {ps : Nat → Bool} {i : Nat} (hok : okN N nc) (hi : i < nc) : okB ps (bN N V i) c :=
  ⟨fun u _ _ => bN_self hok hi, fun u v w _ _ _ _ _ _ h1 h2 => decide_eq_true (say_tr hok i hi _ _ _ (of_decide_eq_true h1) (of_decide_eq_true h2))⟩
/-- the levels, by place -/
def lvP (c : Nat) (ps : Nat → Bool) (B : Nat → Nat → Bool) (j : Nat) : Nat := if j < c ∧ ps j = true then lz ps B c j else 0
theorem lvP_le {ps : Nat → Bool} {B : Nat → Nat → Bool} (hc : c ≤ 24) (hB : okB ps B c) (j : Nat) : lvP c ps B j ≤ 65536 := by
  unfold lvP
  split
  · rename_i hj
    have h1 := lz_le hB hj.1 hj.2
    have h2 := cnt_le ps c
    omega
  · omega
theorem t_PT_level {x y : Int32} {cn co : Nat → Nat} {ps : Nat → Bool} (hnc : nc ≤ 24) (hc : c ≤ 24) (hcc : cc ≤ 4) (hon : ∀ i, i < cc → on i = nI (cn i) ∧ cn i < 4) (hop : ∀ i, i < cc → op i = nI (co i) ∧ co i < 6) (hps : ∀ i, i < c → (ps i = true ↔ okC cc cn co th (V i))) (hok : okN N nc) (hs : nsp X N ad nc sz) (hP : PtAt E X nc al fl c m nu V cc on op th ac af ff qs N ed zs cs ad h) (kx : (∀ i, i < nc → x ≠ nI i) ∨ (∀ i, i < c → nu i ≠ y) → ∀ h', PtAt E X nc al fl c m nu V cc on op th ac af ff qs N ed zs cs ad h' → nsp X N ad nc (sz + 1) → cF X h h' → h' sz = some (oB 13 []) → Q (.threw sz) h' (sz + 1) k n) (kk : ∀ i j, i < nc → x = nI i → j < c → nu j = y → ∀ h', PtAt E X nc al fl c m nu V cc on op th ac af ff qs N ed zs cs ad h' → cF X h h' → Q (.returned (some (.int (nI (lvP c ps (bN N V i) j))))) h' sz k n) : Ev E m_PT_level (d + 60) 0 [some (.ref X), some (.int x), some (.int y), none] [] h sz (k + 1) (n + 6) Q := by
  obtain ⟨nf, hn1, hn2⟩ := hP.2.2.1
  obtain ⟨pm, be, le, hT⟩ := hP.2.2.2.2.1
  have hNd := hP.2.2.2.2.2.2.2.2.2.2
  refine ev_aload_0 (ev_dt dt_PT_level_0 0 rfl) ?_
  refine ev_get (ev_dt dt_PT_level_0 1 rfl) g_PT_12_0 hP.1 rfl ?_
  refine ev_iload_2 (ev_dt dt_PT_level_0 2 rfl) ?_
  refine ev_callV (ev_dt dt_PT_level_0 3 rfl) v_PT_82_1 hP.2.1.1 [.int y] rfl np_Rows_placeOf rfl (ev_lk_of (j := 1) rfl rfl) (t_Rows_placeOf hc hP.2.1 (fun j hj_j hn_j => ev_r1 ?_) (fun hno => ev_r1 ?_))
  · refine ev_istore_3 (ev_dt dt_PT_level_0 4 rfl) (by decide) rfl ?_
    refine ev_aload_0 (ev_dt dt_PT_level_0 5 rfl) ?_
    refine ev_iload_1 (ev_dt dt_PT_level_0 6 rfl) ?_
    refine ev_callV (ev_dt dt_PT_level_0 7 rfl) v_PT_118_0 hP.1 [.int x] rfl np_PT_isNode rfl (ev_lk_of (j := 0) rfl rfl) (t_PT_isNode hnc hP.1 (fun hnode => ev_r1 ?_) (fun hnode => ev_r1 ?_))
    · obtain ⟨i, h_i, rfl⟩ := hnode
      refine ev_if_eqF (tgt := 22) (ev_dt dt_PT_level_0 8 rfl) (by decide) z10 ?_
      refine ev_iload_3 (ev_dt dt_PT_level_0 9 rfl) ?_
      refine ev_icm (ev_dt dt_PT_level_0 10 rfl) ?_
      refine ev_icmp_neT (tgt := 32) (ev_dt dt_PT_level_0 11 rfl) (by decide) (nI_nm (by omega)) ?_
      refine ev_wide (k' := k) (n' := n) (Nat.le_refl _) (Nat.le_add_right _ _) (Nat.le_add_right _ _) ?_
      refine ev_aload_0 (ev_dt dt_PT_level_0 17 rfl) ?_
      refine ev_get (ev_dt dt_PT_level_0 18 rfl) g_PT_36_0 hP.1 rfl ?_
      refine ev_aload_0 (ev_dt dt_PT_level_0 19 rfl) ?_
      refine ev_get (ev_dt dt_PT_level_0 20 rfl) g_PT_12_0 hP.1 rfl ?_
      refine ev_aload_0 (ev_dt dt_PT_level_0 21 rfl) ?_
      refine ev_get (ev_dt dt_PT_level_0 22 rfl) g_PT_18_0 hP.1 rfl ?_
      refine ev_iload_1 (ev_dt dt_PT_level_0 23 rfl) ?_
      refine ev_aald (t := 3) (ev_dt dt_PT_level_0 24 rfl) rfl rfl hn1 (by omega) (by decide) (rf_s (hn2 i h_i)) ?_
      refine ev_aload_0 (ev_dt dt_PT_level_0 25 rfl) ?_
      refine ev_get (ev_dt dt_PT_level_0 26 rfl) g_PT_29_0 hP.1 rfl ?_
      refine ev_callV (ev_dt dt_PT_level_0 27 rfl) v_PT_173_5 hT.1 [.ref (X + 1), .ref (ad i), .ref (X + 29)] rfl np_Contest_hold rfl (ev_lk_of (j := 2) rfl rfl) (t_Contest_hold (nc := nc) (nd := i) hc hP.2.1 hT hcc hP.2.2.2.1 hon hop hps (by omega) (Or.inl (by omega)) (fun i hi => (hNd i hi).1) hok (fun i hi => by have := (hNd i hi).2; omega) h_i (by omega) (fun h1 pm1 be1 hT1 hf1 hpm hbe => ev_r0 ?_))
      have hP1 := hP.setT hT1 hf1
      have hF1 : cF X h h1 := cF.of hf1 (by omega)
      refine ev_aload_0 (ev_dt dt_PT_level_0 28 rfl) ?_
      refine ev_get (ev_dt dt_PT_level_0 29 rfl) g_PT_36_0 hP1.1 rfl ?_
      refine ev_callV (ev_dt dt_PT_level_0 30 rfl) v_PT_190_5 hT1.1 [] rfl np_Contest_rank rfl (ev_lk_of (j := 3) rfl rfl) (t_Contest_rank (ps := ps) (B := bN N V i) hc hT1 hpm hbe (okB_N hok h_i) (fun h2 le2 hT2 hf2 hle => ev_r0 ?_))
      have hP2 := hP1.setT hT2 hf2
      have hF2 : cF X h h2 := hF1.tr (cF.of hf2 (by omega))
      refine ev_aload_0 (ev_dt dt_PT_level_0 31 rfl) ?_
      refine ev_get (ev_dt dt_PT_level_0 32 rfl) g_PT_36_0 hP2.1 rfl ?_
      refine ev_get (ev_dt dt_PT_level_0 33 rfl) g_PT_197_5 hT2.1 rfl ?_
      refine ev_iload_3 (ev_dt dt_PT_level_0 34 rfl) ?_
      refine ev_iald (ev_dt dt_PT_level_0 35 rfl) hT2.2.2 (by omega) (by decide) rfl ?_
      rw [hle j (by omega)]
      exact ev_ireturn (ev_dt dt_PT_level_0 36 rfl) rfl rfl (kk i j h_i rfl hj_j hn_j _ hP2 hF2)
    · refine ev_if_eqT (tgt := 22) (ev_dt dt_PT_level_0 8 rfl) (by decide) z00 ?_
      exact ev_throw (ev_dt dt_PT_level_0 12 rfl) (ev_dt dt_PT_level_0 13 rfl) (ev_dt dt_PT_level_0 14 rfl) (ev_dt dt_PT_level_0 15 rfl) (ev_dt dt_PT_level_0 16 rfl) rfl th_PT_165_102 rfl (kx (Or.inl hnode) _ (hP.ex hs) hs.up (cF.up (Or.inr hs.1)) ev_up_s)
  · refine ev_istore_3 (ev_dt dt_PT_level_0 4 rfl) (by decide) rfl ?_
    refine ev_aload_0 (ev_dt dt_PT_level_0 5 rfl) ?_
    refine ev_iload_1 (ev_dt dt_PT_level_0 6 rfl) ?_
    refine ev_callV (ev_dt dt_PT_level_0 7 rfl) v_PT_118_0 hP.1 [.int x] rfl np_PT_isNode rfl (ev_lk_of (j := 0) rfl rfl) (t_PT_isNode hnc hP.1 (fun hnode => ev_r1 ?_) (fun hnode => ev_r1 ?_))
    · refine ev_if_eqF (tgt := 22) (ev_dt dt_PT_level_0 8 rfl) (by decide) z10 ?_
      refine ev_iload_3 (ev_dt dt_PT_level_0 9 rfl) ?_
      refine ev_icm (ev_dt dt_PT_level_0 10 rfl) ?_
      refine ev_icmp_neF (tgt := 32) (ev_dt dt_PT_level_0 11 rfl) (by decide) rfl ?_
      exact ev_throw (ev_dt dt_PT_level_0 12 rfl) (ev_dt dt_PT_level_0 13 rfl) (ev_dt dt_PT_level_0 14 rfl) (ev_dt dt_PT_level_0 15 rfl) (ev_dt dt_PT_level_0 16 rfl) rfl th_PT_165_102 rfl (kx (Or.inr hno) _ (hP.ex hs) hs.up (cF.up (Or.inr hs.1)) ev_up_s)
    · refine ev_if_eqT (tgt := 22) (ev_dt dt_PT_level_0 8 rfl) (by decide) z00 ?_
      exact ev_throw (ev_dt dt_PT_level_0 12 rfl) (ev_dt dt_PT_level_0 13 rfl) (ev_dt dt_PT_level_0 14 rfl) (ev_dt dt_PT_level_0 15 rfl) (ev_dt dt_PT_level_0 16 rfl) rfl th_PT_165_102 rfl (kx (Or.inl hnode) _ (hP.ex hs) hs.up (cF.up (Or.inr hs.1)) ev_up_s)
theorem t_PT_top {x y : Int32} {cn co : Nat → Nat} {ps : Nat → Bool} (hnc : nc ≤ 24) (hc : c ≤ 24) (hcc : cc ≤ 4) (hon : ∀ i, i < cc → on i = nI (cn i) ∧ cn i < 4) (hop : ∀ i, i < cc → op i = nI (co i) ∧ co i < 6) (hps : ∀ i, i < c → (ps i = true ↔ okC cc cn co th (V i))) (hok : okN N nc) (hs : nsp X N ad nc sz) (hP : PtAt E X nc al fl c m nu V cc on op th ac af ff qs N ed zs cs ad h) (kx : (∀ i, i < nc → x ≠ nI i) → ∀ h', PtAt E X nc al fl c m nu V cc on op th ac af ff qs N ed zs cs ad h' → nsp X N ad nc (sz + 1) → cF X h h' → h' sz = some (oB 13 []) → Q (.threw sz) h' (sz + 1) k n) (k2 : ∀ i, i < nc → x = nI i → y < 0 → ∀ h', PtAt E X nc al fl c m nu V cc on op th ac af ff qs N ed zs cs ad h' → nsp X N ad nc (sz + 1) → cF X h h' → h' sz = some (oB 12 []) → Q (.threw sz) h' (sz + 1) k n) (kk : ∀ i t, i < nc → x = nI i → t < 2 ^ 31 → y = nI t → ∀ h' c' f', c' = min t (rk (lvP c ps (bN N V i)) c (c + 1) 0) → (∀ j, j < c' → ∃ u, u < c ∧ 1 ≤ lvP c ps (bN N V i) u ∧ rk (lvP c ps (bN N V i)) c (lvP c ps (bN N V i) u) u = j ∧ f' j = nu u) → PtAt E X nc al fl c m nu V cc on op th c' f' ff qs N ed zs cs ad h' → cF X h h' → Q (.returned (some (.int (nI c')))) h' sz k n) : Ev E m_PT_top (d + 60) 0 [some (.ref X), some (.int x), some (.int y)] [] h sz (k + 1) (n + 6) Q := by
  obtain ⟨nf, hn1, hn2⟩ := hP.2.2.1
  obtain ⟨pm, be, le, hT⟩ := hP.2.2.2.2.1
  have hNd := hP.2.2.2.2.2.2.2.2.2.2
  refine ev_aload_0 (ev_dt dt_PT_top_0 0 rfl) ?_
  refine ev_iload_1 (ev_dt dt_PT_top_0 1 rfl) ?_
  refine ev_callV (ev_dt dt_PT_top_0 2 rfl) v_PT_118_0 hP.1 [.int x] rfl np_PT_isNode rfl (ev_lk_of (j := 0) rfl rfl) (t_PT_isNode hnc hP.1 (fun hnode => ev_r1 ?_) (fun hnode => ev_r1 ?_))
  · obtain ⟨i, h_i, rfl⟩ := hnode
    refine ev_if_neT (tgt := 18) (ev_dt dt_PT_top_0 3 rfl) (by decide) z10 ?_
    refine ev_iload_2 (ev_dt dt_PT_top_0 9 rfl) ?_
    refine ev_if_ge (tgt := 32) (ev_dt dt_PT_top_0 10 rfl) (by decide) (fun h1 => ?_) (fun h1 => ?_)
    · obtain ⟨t, ht, rfl⟩ := nI_of (Int32.not_lt.mpr h1)
      refine ev_wide (k' := k) (n' := n) (Nat.le_refl _) (Nat.le_add_right _ _) (Nat.le_add_right _ _) ?_
      refine ev_aload_0 (ev_dt dt_PT_top_0 16 rfl) ?_
      refine ev_get (ev_dt dt_PT_top_0 17 rfl) g_PT_36_0 hP.1 rfl ?_
      refine ev_aload_0 (ev_dt dt_PT_top_0 18 rfl) ?_
      refine ev_get (ev_dt dt_PT_top_0 19 rfl) g_PT_12_0 hP.1 rfl ?_
      refine ev_aload_0 (ev_dt dt_PT_top_0 20 rfl) ?_
      refine ev_get (ev_dt dt_PT_top_0 21 rfl) g_PT_18_0 hP.1 rfl ?_
      refine ev_iload_1 (ev_dt dt_PT_top_0 22 rfl) ?_
      refine ev_aald (t := 3) (ev_dt dt_PT_top_0 23 rfl) rfl rfl hn1 (by omega) (by decide) (rf_s (hn2 i h_i)) ?_
      refine ev_aload_0 (ev_dt dt_PT_top_0 24 rfl) ?_
      refine ev_get (ev_dt dt_PT_top_0 25 rfl) g_PT_29_0 hP.1 rfl ?_
      refine ev_callV (ev_dt dt_PT_top_0 26 rfl) v_PT_173_5 hT.1 [.ref (X + 1), .ref (ad i), .ref (X + 29)] rfl np_Contest_hold rfl (ev_lk_of (j := 2) rfl rfl) (t_Contest_hold (nc := nc) (nd := i) hc hP.2.1 hT hcc hP.2.2.2.1 hon hop hps (by omega) (Or.inl (by omega)) (fun i hi => (hNd i hi).1) hok (fun i hi => by have := (hNd i hi).2; omega) h_i (by omega) (fun h1 pm1 be1 hT1 hf1 hpm hbe => ev_r0 ?_))
      have hP1 := hP.setT hT1 hf1
      have hF1 : cF X h h1 := cF.of hf1 (by omega)
      refine ev_aload_0 (ev_dt dt_PT_top_0 27 rfl) ?_
      refine ev_get (ev_dt dt_PT_top_0 28 rfl) g_PT_36_0 hP1.1 rfl ?_
      refine ev_callV (ev_dt dt_PT_top_0 29 rfl) v_PT_190_5 hT1.1 [] rfl np_Contest_rank rfl (ev_lk_of (j := 3) rfl rfl) (t_Contest_rank (ps := ps) (B := bN N V i) hc hT1 hpm hbe (okB_N hok h_i) (fun h2 le2 hT2 hf2 hle => ev_r0 ?_))
      have hP2 := hP1.setT hT2 hf2
      have hF2 : cF X h h2 := hF1.tr (cF.of hf2 (by omega))
      refine ev_aload_0 (ev_dt dt_PT_top_0 30 rfl) ?_
      refine ev_get (ev_dt dt_PT_top_0 31 rfl) g_PT_36_0 hP2.1 rfl ?_
      refine ev_aload_0 (ev_dt dt_PT_top_0 32 rfl) ?_
      refine ev_get (ev_dt dt_PT_top_0 33 rfl) g_PT_12_0 hP2.1 rfl ?_
      refine ev_iload_2 (ev_dt dt_PT_top_0 34 rfl) ?_
      refine ev_aload_0 (ev_dt dt_PT_top_0 35 rfl) ?_
      refine ev_get (ev_dt dt_PT_top_0 36 rfl) g_PT_43_0 hP2.1 rfl ?_
      refine ev_callV (ev_dt dt_PT_top_0 37 rfl) v_PT_193_5 hT2.1 [.ref (X + 1), .int (nI t), .ref (X + 36)] rfl np_Contest_listFirst rfl (ev_lk_of (j := 2) rfl rfl) (t_Contest_listFirst (lv := lvP c ps (bN N V i)) hc ht (lvP_le hc (okB_N hok h_i)) (fun j hj => hle j (by omega)) hP2.2.1 hT2 hP2.2.2.2.2.2.1 (by omega) (by omega) (fun h3 c3 f3 hL3 hf3 hc3 hr3 => ev_r0 ?_))
      have hP3 := hP2.setA hL3 hf3
      refine ev_aload_0 (ev_dt dt_PT_top_0 38 rfl) ?_
      refine ev_get (ev_dt dt_PT_top_0 39 rfl) g_PT_43_0 hP3.1 rfl ?_
      refine ev_get (ev_dt dt_PT_top_0 40 rfl) g_PT_181_2 hL3.1 rfl ?_
      exact ev_ireturn (ev_dt dt_PT_top_0 41 rfl) rfl rfl (kk i t h_i rfl ht rfl _ c3 f3 hc3 hr3 hP3 (hF2.tr (cF.of hf3 (by omega))))
    · exact ev_throw (ev_dt dt_PT_top_0 11 rfl) (ev_dt dt_PT_top_0 12 rfl) (ev_dt dt_PT_top_0 13 rfl) (ev_dt dt_PT_top_0 14 rfl) (ev_dt dt_PT_top_0 15 rfl) rfl th_PT_188_107 rfl (k2 i h_i rfl (Int32.not_le.mp h1) _ (hP.ex hs) hs.up (cF.up (Or.inr hs.1)) ev_up_s)
  · refine ev_if_neF (tgt := 18) (ev_dt dt_PT_top_0 3 rfl) (by decide) z00 ?_
    exact ev_throw (ev_dt dt_PT_top_0 4 rfl) (ev_dt dt_PT_top_0 5 rfl) (ev_dt dt_PT_top_0 6 rfl) (ev_dt dt_PT_top_0 7 rfl) (ev_dt dt_PT_top_0 8 rfl) rfl th_PT_171_102 rfl (kx hnode _ (hP.ex hs) hs.up (cF.up (Or.inr hs.1)) ev_up_s)
end C15
