/-! The law: new objects, the loop over the script (written by gen_law2.py over walk.py). -/
theorem l5 {L t : Nat} (hL : L ≤ 2560) (ht : 5 * t ≤ 5000) : nI L - nI 5 < nI (5 * t) ↔ L < 5 * t + 5 := by
  by_cases h5 : 5 ≤ L
  · rw [nI_sub h5, nI_ltI (by omega) (by omega)]; omega
  · have h0 : nI L - nI 5 < 0 := by
      obtain rfl | rfl | rfl | rfl | rfl : L = 0 ∨ L = 1 ∨ L = 2 ∨ L = 3 ∨ L = 4 := by omega
      all_goals decide +kernel
    exact ⟨fun _ => by omega, fun _ => Int32.lt_of_lt_of_le h0 (nI_pos' (by omega))⟩
theorem and31 (x : Int32) : ∃ w, w < 32 ∧ x &&& nI 31 = nI w := by
  have h1 : ∀ i, i < 32 → 5 ≤ i → bt (x &&& nI 31) i = false := fun i hi h5 => by
    rw [b_and]
    have : ∀ i, i < 32 → 5 ≤ i → bt (nI 31) i = false := by decide +kernel
    rw [this i hi h5, Bool.and_false]
  have h2 : (x &&& nI 31).toBitVec.toNat < 2 ^ 5 := by
    apply Nat.lt_pow_two_of_testBit
    intro i h5
    by_cases hi : i < 32
    · exact h1 i hi h5
    · rw [BitVec.testBit_toNat]; exact BitVec.getLsbD_of_ge _ _ (by omega)
  refine ⟨(x &&& nI 31).toBitVec.toNat, h2, Int32.toBitVec_inj.mp ?_⟩
  apply BitVec.eq_of_toNat_eq
  show _ = (BitVec.ofNat 32 _).toNat
  rw [BitVec.toNat_ofNat, Nat.mod_eq_of_lt (by omega)]
theorem i5 (t : Nat) : nI (5 * t) + Int32.ofInt 5 = nI (5 * (t + 1)) := by
  rw [show Int32.ofInt 5 = nI 5 from rfl, nI_add]; rfl
def N0 : nod := (fun _ => 0, fun _ => 0, fun _ => nI 0, fun _ => nI 0, fun _ _ => nI 0, fun _ _ => nI 0)
theorem rel_0 : rel 0 0 0 0 0 (fun _ => nI 0) (fun _ => (fun _ => nI 0)) 0 (fun _ => nI 0) (fun _ => nI 0) (fun _ => nI 0) 0 (fun _ => nI 0) (fun _ => nI 0) (fun _ => q0) N0 (fun _ _ => nI 0) (fun _ => 0) (fun _ => nI 0) (fun _ => 0) (fun _ _ => nI 0) (fun _ => false) (fun _ => 0) (fun _ => 0) (fun _ => 0) (fun _ _ => 0) (fun _ _ => 0) (fun _ _ => false) := by
  refine ⟨⟨rfl, by decide, by decide, fun r _ => rfl, en_0, fun j hj => absurd hj (Nat.not_lt_zero _)⟩, ⟨rfl, by decide, ⟨fun i hi => absurd hi (Nat.not_lt_zero _), fun i hi => absurd hi (Nat.not_lt_zero _), fun i hi => absurd hi (Nat.not_lt_zero _), fun i hi => absurd hi (Nat.not_lt_zero _)⟩, ⟨fun i hi => absurd hi (Nat.not_lt_zero _), fun i hi => absurd hi (Nat.not_lt_zero _)⟩, fun i hi => absurd hi (Nat.not_lt_zero _), fun i hi => absurd hi (Nat.not_lt_zero _)⟩, ⟨⟨fun r _ => rfl, by decide, rfl, by decide, fun i hi => absurd hi (Nat.not_lt_zero _)⟩, fun i hi => absurd hi (Nat.not_lt_zero _)⟩, ⟨rfl, by decide, fun i hi => absurd hi (Nat.not_lt_zero _)⟩, ⟨rfl, by decide, fun i hi => absurd hi (Nat.not_lt_zero _)⟩, fun s _ => ⟨⟨rfl, Nat.le_refl _, Nat.zero_le _, Nat.zero_le _, Nat.zero_le _, fun v _ => rfl⟩, fun h => absurd rfl h⟩⟩
theorem LI.up {E : ev_E} {X t : Nat} {h : ev_h} {sz : Nat} (hI : LI E X t h sz) : LI E X (t + 1) h sz := by
  obtain ⟨nc, al, fl, c, mr, cc, ac, nu, on, op, th, af, ff, V, qs, N, ed, zs, cs, ad, F, A, T, π, cn, co, cq, oq, sn, o, hP, hs, hM, ho, hR, hal⟩ := hI
  exact LI.mk hP hs hM ho hR (by omega)
theorem law_loop {E : ev_E} {X b L d : Nat} {xs : Nat → Int32} {Q : ev_Q} (hE : ev_nok E) (hX : va_X b L xs E.2.2.2.1 E.2.2.2.1.heap) (hb : b < ev_b E) (hL : L ≤ 2560) (kq : ∀ h' sz' k' n', Q (.returned (some (.int (nI 1)))) h' sz' k' n') : ∀ f t h sz k n, L ≤ 5 * t + f → 5 * t ≤ 5000 → 3 * f ≤ k → 27 * f ≤ n → LI E X t h sz → Ev E m_Lw_law (d + 62) 23 [some (.ref b), some (.ref X), some (.ref (X + 78)), some (.ref (X + 107)), some (.int (nI (5 * t))), none, none] [] h sz k n Q := by
  intro f
  induction f with
  | zero =>
    intro t h sz k n hf ht5 hk hn hI
    refine ev_iload_4 (ev_dt dt_Lw_law_0 13 rfl) ?_
    refine ev_aload_0 (ev_dt dt_Lw_law_0 14 rfl) ?_
    refine ev_slen (ev_dt dt_Lw_law_0 15 rfl) hX hb ?_
    refine ev_ic5 (ev_dt dt_Lw_law_0 16 rfl) ?_
    refine ev_isub (ev_dt dt_Lw_law_0 17 rfl) rfl ?_
    refine ev_icmp_gtT (tgt := 1490) (ev_dt dt_Lw_law_0 18 rfl) (by decide) ((l5 hL (by omega)).mpr (by omega)) ?_
    refine ev_ic1 (ev_dt dt_Lw_law_15 42 rfl) ?_
    exact ev_ireturn (ev_dt dt_Lw_law_15 43 rfl) rfl bz1 (kq h sz k n)
  | succ f ih =>
    intro t h sz k n hf ht5 hk hn hI
    refine ev_iload_4 (ev_dt dt_Lw_law_0 13 rfl) ?_
    refine ev_aload_0 (ev_dt dt_Lw_law_0 14 rfl) ?_
    refine ev_slen (ev_dt dt_Lw_law_0 15 rfl) hX hb ?_
    refine ev_ic5 (ev_dt dt_Lw_law_0 16 rfl) ?_
    refine ev_isub (ev_dt dt_Lw_law_0 17 rfl) rfl ?_
    by_cases ht : 5 * t + 5 ≤ L
    · refine ev_icmp_gtF (tgt := 1490) (ev_dt dt_Lw_law_0 18 rfl) (by decide) (fun q => absurd ((l5 hL (by omega)).mp q) (by omega)) ?_
      refine ev_aload_0 (ev_dt dt_Lw_law_0 19 rfl) ?_
      refine ev_iload_4 (ev_dt dt_Lw_law_0 20 rfl) ?_
      refine ev_sld (ev_dt dt_Lw_law_0 21 rfl) hX hb (by omega) (by omega) ?_
      refine ev_bipush (ev_dt dt_Lw_law_0 22 rfl) bi_31 ?_
      refine ev_iand (ev_dt dt_Lw_law_0 23 rfl) rfl ?_
      obtain ⟨w, hw, ew⟩ := and31 (xs (5 * t))
      rw [ew]
      obtain ⟨k, rfl⟩ : ∃ k0, k = k0 + 3 := ⟨k - 3, by omega⟩
      obtain ⟨n, rfl⟩ : ∃ n0, n = n0 + 27 := ⟨n - 27, by omega⟩
      have next : ∀ h' sz' k' n', LI E X (t + 1) h' sz' → k ≤ k' → n ≤ n' → Ev E m_Lw_law (d + 62) 1484 [some (.ref b), some (.ref X), some (.ref (X + 78)), some (.ref (X + 107)), some (.int (nI (5 * t))), none, none] [] h' sz' k' n' Q := by
        intro h' sz' k' n' hI' hk' hn'
        refine ev_iinc_4 (ev_dt dt_Lw_law_15 40 rfl) (i5 t) (by decide) rfl ?_
        refine ev_goto (tgt := 23) (ev_dt dt_Lw_law_15 41 rfl) (by decide) ?_
        exact ih (t + 1) h' sz' k' n' (by omega) (by omega) (by omega) (by omega) hI'
      obtain rfl | rfl | rfl | rfl | rfl | rfl | rfl | rfl | rfl | rfl | rfl | rfl | rfl | rfl | rfl | rfl | rfl | rfl | rfl | rfl | rfl | rfl | hw2 : w = 0 ∨ w = 1 ∨ w = 2 ∨ w = 3 ∨ w = 4 ∨ w = 5 ∨ w = 6 ∨ w = 7 ∨ w = 8 ∨ w = 9 ∨ w = 10 ∨ w = 11 ∨ w = 12 ∨ w = 13 ∨ w = 14 ∨ w = 15 ∨ w = 16 ∨ w = 17 ∨ w = 18 ∨ w = 19 ∨ w = 20 ∨ w = 21 ∨ 22 ≤ w := by omega
      · refine ev_tabIn (tgt := 140) (off := 101) (ev_dt dt_Lw_law_0 24 rfl) (by decide +kernel) (by decide +kernel) (by decide +kernel) (by decide) ?_
        exact c_row hE hX hb hL ht (by omega) hI next
      · refine ev_tabIn (tgt := 232) (off := 193) (ev_dt dt_Lw_law_0 24 rfl) (by decide +kernel) (by decide +kernel) (by decide +kernel) (by decide) ?_
        exact c_change hE hX hb hL ht (by omega) hI next
      · refine ev_tabIn (tgt := 281) (off := 242) (ev_dt dt_Lw_law_0 24 rfl) (by decide +kernel) (by decide +kernel) (by decide +kernel) (by decide) ?_
        exact c_remove hE hX hb hL ht (by omega) hI next
      · refine ev_tabIn (tgt := 306) (off := 267) (ev_dt dt_Lw_law_0 24 rfl) (by decide +kernel) (by decide +kernel) (by decide +kernel) (by decide) ?_
        exact c_value hE hX hb hL ht (by omega) hI next
      · refine ev_tabIn (tgt := 374) (off := 335) (ev_dt dt_Lw_law_0 24 rfl) (by decide +kernel) (by decide +kernel) (by decide +kernel) (by decide) ?_
        exact c_order hE hX hb hL ht (by omega) hI next
      · refine ev_tabIn (tgt := 466) (off := 427) (ev_dt dt_Lw_law_0 24 rfl) (by decide +kernel) (by decide +kernel) (by decide +kernel) (by decide) ?_
        exact c_layer hE hX hb hL ht (by omega) hI next
      · refine ev_tabIn (tgt := 515) (off := 476) (ev_dt dt_Lw_law_0 24 rfl) (by decide +kernel) (by decide +kernel) (by decide +kernel) (by decide) ?_
        exact c_edge hE hX hb hL ht (by omega) hI next
      · refine ev_tabIn (tgt := 602) (off := 563) (ev_dt dt_Lw_law_0 24 rfl) (by decide +kernel) (by decide +kernel) (by decide +kernel) (by decide) ?_
        exact c_term hE hX hb hL ht (by omega) hI next
      · refine ev_tabIn (tgt := 682) (off := 643) (ev_dt dt_Lw_law_0 24 rfl) (by decide +kernel) (by decide +kernel) (by decide +kernel) (by decide) ?_
        exact c_condition hE hX hb hL ht (by omega) hI next
      · refine ev_tabIn (tgt := 762) (off := 723) (ev_dt dt_Lw_law_0 24 rfl) (by decide +kernel) (by decide +kernel) (by decide +kernel) (by decide) ?_
        exact c_free hE hX hb hL ht (by omega) hI next
      · refine ev_tabIn (tgt := 773) (off := 734) (ev_dt dt_Lw_law_0 24 rfl) (by decide +kernel) (by decide +kernel) (by decide +kernel) (by decide) ?_
        exact c_compare hE hX hb hL ht (by omega) hI next
      · refine ev_tabIn (tgt := 853) (off := 814) (ev_dt dt_Lw_law_0 24 rfl) (by decide +kernel) (by decide +kernel) (by decide +kernel) (by decide) ?_
        exact c_best hE hX hb hL ht (by omega) hI next
      · refine ev_tabIn (tgt := 909) (off := 870) (ev_dt dt_Lw_law_0 24 rfl) (by decide +kernel) (by decide +kernel) (by decide +kernel) (by decide) ?_
        exact c_grouped hE hX hb hL ht (by omega) hI next
      · refine ev_tabIn (tgt := 977) (off := 938) (ev_dt dt_Lw_law_0 24 rfl) (by decide +kernel) (by decide +kernel) (by decide +kernel) (by decide) ?_
        exact c_top hE hX hb hL ht (by omega) hI next
      · refine ev_tabIn (tgt := 1045) (off := 1006) (ev_dt dt_Lw_law_0 24 rfl) (by decide +kernel) (by decide +kernel) (by decide +kernel) (by decide) ?_
        exact c_level hE hX hb hL ht (by omega) hI next
      · refine ev_tabIn (tgt := 1113) (off := 1074) (ev_dt dt_Lw_law_0 24 rfl) (by decide +kernel) (by decide +kernel) (by decide +kernel) (by decide) ?_
        exact c_answer hE hX hb hL ht (by omega) hI next
      · refine ev_tabIn (tgt := 1138) (off := 1099) (ev_dt dt_Lw_law_0 24 rfl) (by decide +kernel) (by decide +kernel) (by decide +kernel) (by decide) ?_
        exact c_reason hE hX hb hL ht (by omega) hI next
      · refine ev_tabIn (tgt := 1230) (off := 1191) (ev_dt dt_Lw_law_0 24 rfl) (by decide +kernel) (by decide +kernel) (by decide +kernel) (by decide) ?_
        exact c_save hE hX hb hL ht (by omega) hI next
      · refine ev_tabIn (tgt := 1298) (off := 1259) (ev_dt dt_Lw_law_0 24 rfl) (by decide +kernel) (by decide +kernel) (by decide +kernel) (by decide) ?_
        exact c_saved hE hX hb hL ht (by omega) hI next
      · refine ev_tabIn (tgt := 1347) (off := 1308) (ev_dt dt_Lw_law_0 24 rfl) (by decide +kernel) (by decide +kernel) (by decide +kernel) (by decide) ?_
        exact c_read hE hX hb hL ht (by omega) hI next
      · refine ev_tabIn (tgt := 1372) (off := 1333) (ev_dt dt_Lw_law_0 24 rfl) (by decide +kernel) (by decide +kernel) (by decide +kernel) (by decide) ?_
        exact c_reduce hE hX hb hL ht (by omega) hI next
      · refine ev_tabIn (tgt := 1428) (off := 1389) (ev_dt dt_Lw_law_0 24 rfl) (by decide +kernel) (by decide +kernel) (by decide +kernel) (by decide) ?_
        exact c_form hE hX hb hL ht (by omega) hI next
      · refine ev_tabOut (tgt := 1484) (ev_dt dt_Lw_law_0 24 rfl) (Or.inr (by rw [nI_toInt (by omega)]; omega)) (by decide) ?_
        exact next h sz _ _ (hI.up) (by omega) (by omega)
    · refine ev_icmp_gtT (tgt := 1490) (ev_dt dt_Lw_law_0 18 rfl) (by decide) ((l5 hL (by omega)).mpr (by omega)) ?_
      refine ev_ic1 (ev_dt dt_Lw_law_15 42 rfl) ?_
      exact ev_ireturn (ev_dt dt_Lw_law_15 43 rfl) rfl bz1 (kq h sz k n)
theorem law_all {E : ev_E} {X b L d k n : Nat} {xs : Nat → Int32} {h : ev_h} {Q : ev_Q} (hE : ev_nok E) (hX : va_X b L xs E.2.2.2.1 E.2.2.2.1.heap) (hb : b < ev_b E) (hL : L ≤ 2560) (kq : ∀ h' sz' k' n', Q (.returned (some (.int (nI 1)))) h' sz' k' n') : Ev E m_Lw_law (d + 62) 0 [some (.ref b), none, none, none, none, none, none] [] h X (k + 8000) (n + 80000) Q := by
  refine ev_wide (d' := d + 62) (k' := (((k + 7680) + 1) + 28 + 1) + 77 + 1) (n' := (((n + 69120) + 1) + 2865 + 34) + 747 + 11) (Nat.le_refl _) (by omega) (by omega) ?_
  refine ev_newE (N := 11) (s' := X + 1) (ev_dt dt_Lw_law_0 0 rfl) n_Lw_8 rfl ?_
  refine ev_dup (ev_dt dt_Lw_law_0 1 rfl) rfl ?_
  refine ev_callI (a := X) (ev_dt dt_Lw_law_0 2 rfl) i_Lw_65 [] rfl np_PT_init rfl (ev_lk_of (j := 1) rfl rfl) (t_PT_init (d := d + 58) (N := N0) (ed := fun _ _ => nI 0) (zs := fun _ => 0) (cs := fun _ => nI 0) (ad := fun _ => 0) ev_up_s (fun h1 hP1 hf1 => ev_r0 ?_))
  refine ev_astore_1 (ev_dt dt_Lw_law_0 3 rfl) (by decide) rfl ?_
  refine ev_newE (N := 34) (s' := X + 78 + 1) (ev_dt dt_Lw_law_0 4 rfl) n_Lw_66 rfl ?_
  refine ev_dup (ev_dt dt_Lw_law_0 5 rfl) rfl ?_
  refine ev_callI (a := X + 78) (ev_dt dt_Lw_law_0 6 rfl) i_Lw_68 [] rfl np_Md_init rfl (ev_lk_of (j := 0) rfl rfl) (t_Md_init (d := d + 60) ev_up_s (fun h2 hM2 hf2 => ev_r0 ?_))
  refine ev_astore_2 (ev_dt dt_Lw_law_0 7 rfl) (by decide) rfl ?_
  refine ev_ic1 (ev_dt dt_Lw_law_0 8 rfl) ?_
  refine ev_newlE (s' := X + 108) (ev_dt dt_Lw_law_0 9 rfl) (by decide) wd_1068 rfl ?_
  refine ev_astore_3 (ev_dt dt_Lw_law_0 10 rfl) (by decide) rfl ?_
  refine ev_ic0 (ev_dt dt_Lw_law_0 11 rfl) ?_
  refine ev_istore_4 (ev_dt dt_Lw_law_0 12 rfl) (by decide) rfl ?_
  have hP2 := ((hP1.kept (h' := ev_up h1 (X + 78) _) (fun q q1 q2 => ev_up_n (by omega)) (fun i hi => absurd hi (Nat.not_lt_zero _))).kept (h' := h2) (fun q q1 q2 => hf2 q (by omega)) (fun i hi => absurd hi (Nat.not_lt_zero _))).out (x := lA E 1 (fun _ => 0))
  exact law_loop hE hX hb hL kq 2560 0 _ (X + 108) _ _ (by omega) (by omega) (by omega) (by omega) (LI.mk hP2 ⟨by omega, fun i hi => absurd hi (Nat.not_lt_zero _), fun i j _ hj => absurd hj (Nat.not_lt_zero _)⟩ (hM2.kept (fun q q1 q2 => ev_up_n (by omega))) ev_up_s rel_0 (by omega))
