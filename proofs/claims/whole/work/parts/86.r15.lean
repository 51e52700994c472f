/-! save, in the reference (written by gen_r15.py over walk.py). -/
/-- the first j conditions are copied to question s -/
def cp (f g : Nat → Int32) (s j : Nat) : Prop := ∀ z, g z = if 4 * s ≤ z ∧ z < 4 * s + j then f (16 + (z - 4 * s)) else f z
theorem cp_0 {f : Nat → Int32} {s : Nat} : cp f f s 0 := fun z => by rw [if_neg (by omega)]
theorem cp_s {f g : Nat → Int32} {s j : Nat} (h : cp f g s j) (hs : s < 4) (hj : j < 4) : cp f (upd g (4 * s + j) (g (16 + j))) s (j + 1) := fun z => by
  have e : g (16 + j) = f (16 + j) := by rw [h, if_neg (by omega)]
  by_cases q : z = 4 * s + j
  · subst q; rw [pk_us, if_pos (by omega), e, show 4 * s + j - 4 * s = j by omega]
  · rw [pk_un q, h z]
    by_cases c : 4 * s ≤ z ∧ z < 4 * s + j
    · rw [if_pos c, if_pos (by omega)]
    · rw [if_neg c, if_neg (by omega)]
/-- conditions copied, all else as it was -/
def cA (A A' : Nat → Nat → Int32) (s j : Nat) : Prop := (∀ a, a ≠ 11 → a ≠ 12 → a ≠ 13 → A' a = A a) ∧ cp (A 11) (A' 11) s j ∧ cp (A 12) (A' 12) s j ∧ cp (A 13) (A' 13) s j
theorem cA_s {A A' : Nat → Nat → Int32} {s j : Nat} (h : cA A A' s j) (hs : s < 4) (hj : j < 4) : cA A (uA (uA (uA A' 11 (4 * s + j) (A' 11 (16 + j))) 12 (4 * s + j) (A' 12 (16 + j))) 13 (4 * s + j) (A' 13 (16 + j))) s (j + 1) := by
  refine ⟨fun a h1 h2 h3 => by rw [uA_a h3, uA_a h2, uA_a h1]; exact h.1 a h1 h2 h3, ?_, ?_, ?_⟩
  · rw [uA_a (by decide), uA_a (by decide), uA_u]; exact cp_s h.2.1 hs hj
  · rw [uA_a (by decide), uA_u, uA_a (by decide)]; exact cp_s h.2.2.1 hs hj
  · rw [uA_u, uA_a (by decide), uA_a (by decide)]; exact cp_s h.2.2.2 hs hj
theorem cp_at {f g : Nat → Int32} {s i : Nat} (h : cp f g s 4) (hi : i < 4) : g (4 * s + i) = f (16 + i) := by rw [h, if_pos (by omega), show 4 * s + i - 4 * s = i by omega]
/-- question s is asked: node i, the conditions as they are -/
def qA (A A' : Nat → Nat → Int32) (s i : Nat) : Prop := (∀ a, a ≠ 10 → a ≠ 11 → a ≠ 12 → a ≠ 13 → a ≠ 14 → a ≠ 15 → A' a = A a) ∧ A' 10 = upd (A 10) s (A 10 4) ∧ cp (A 11) (A' 11) s 4 ∧ cp (A 12) (A' 12) s 4 ∧ cp (A 13) (A' 13) s 4 ∧ A' 14 = upd (A 14) s (nI 1) ∧ A' 15 = upd (A 15) s (nI i)
theorem qA_RC {A A' : Nat → Nat → Int32} {T : Nat → Bool} {s i cc : Nat} {cn co : Nat → Nat} {th : Nat → Int32} (h : RC A T 4 cc cn co th) (hq : qA A A' s i) (hs : s < 4) : RC A' T s cc cn co th := by
  obtain ⟨a0, a10, a11, a12, a13, -, -⟩ := hq
  obtain ⟨h0, -, h2, h3, h4⟩ := h
  refine ⟨fun r hr => by rw [a0 0 (by decide) (by decide) (by decide) (by decide) (by decide) (by decide)]; exact h0 r hr, by omega, by rw [a10, pk_us]; exact h2, h3, fun j hj => ?_⟩
  rw [cp_at a11 (by omega), cp_at a12 (by omega), cp_at a13 (by omega)]
  exact h4 j hj
theorem qA_RS {A A' : Nat → Nat → Int32} {s i nc : Nat} {N : nod} {ed : Nat → Nat → Int32} {zs : Nat → Nat} (hS : RS A nc N ed zs) (hq : qA A A' s i) : RS A' nc N ed zs := by
  have h := hq.1
  refine ⟨fun i hi => ?_, hS.2⟩
  rw [h 2 (by decide) (by decide) (by decide) (by decide) (by decide) (by decide), h 3 (by decide) (by decide) (by decide) (by decide) (by decide) (by decide), h 4 (by decide) (by decide) (by decide) (by decide) (by decide) (by decide), h 5 (by decide) (by decide) (by decide) (by decide) (by decide) (by decide), h 6 (by decide) (by decide) (by decide) (by decide) (by decide) (by decide), h 7 (by decide) (by decide) (by decide) (by decide) (by decide) (by decide), h 8 (by decide) (by decide) (by decide) (by decide) (by decide) (by decide)]
  exact hS.1 i hi
theorem qA_rV {A A' : Nat → Nat → Int32} {s i : Nat} (hq : qA A A' s i) : rV A' = rV A := by
  funext r
  unfold rV
  rw [hq.1 1 (by decide) (by decide) (by decide) (by decide) (by decide) (by decide)]
theorem qA_pR {A A' : Nat → Nat → Int32} {s i : Nat} {T : Nat → Bool} {cc : Nat} {cn co : Nat → Nat} {th : Nat → Int32} (hq : qA A A' s i) : pR A' T cc cn co th = pR A T cc cn co th := by
  funext r
  unfold pR
  rw [qA_rV hq]
section R15
variable {E : ev_E} {d : Nat} {h : ev_h} {sz k n : Nat} {Q : ev_Q}
variable {m : Nat} {F : Nat → Nat} {A : Nat → Nat → Int32}
theorem r_save {x y : Int32} {nc : Nat} {N : nod} {ed : Nat → Nat → Int32} {zs : Nat → Nat} {T : Nat → Bool} {cc : Nat} {cn co : Nat → Nat} {th : Nat → Int32} (hM : Rf E m F A h) (hS : RS A nc N ed zs) (hnc : nc ≤ 24) (hF2 : F 2 = nc) (hC : RC A T 4 cc cn co th) (hF1 : F 1 ≤ 120) (kx : (∀ s, s < 4 → x ≠ nI s) ∨ (∀ i, i < F 2 → y ≠ nI i) → ∀ h', Rf E m (uF F 0 1) A h' → fR m h h' → Q (.returned (some (.int (nI 0)))) h' sz k n) (kk : ∀ s i, s < 4 → x = nI s → i < F 2 → y = nI i → ∀ h' A1 A', qA A A1 s i → eA A1 A' → (∀ v, v < 120 → A' 16 (120 * s + v) = b2 (decide (v < F 1) && ub (F 1) (pR A T cc cn co th) (bN N (rV A) i) v)) → (∀ z, z < 120 * s ∨ 120 * s + 120 ≤ z → A' 16 z = A1 16 z) → Rf E m (uF F 0 0) A' h' → fR m h h' → Q (.returned (some (.int (nI (cnt (ub (F 1) (pR A T cc cn co th) (bN N (rV A) i)) (F 1)))))) h' sz k n) : Ev E m_Md_save (d + 6) 0 [some (.ref m), some (.int x), some (.int y), none] [] h sz k n Q := by
  refine ev_aload_0 (ev_dt dt_Md_save_0 0 rfl) ?_
  refine ev_iload_1 (ev_dt dt_Md_save_0 1 rfl) ?_
  refine ev_if_lt (tgt := 22) (ev_dt dt_Md_save_0 2 rfl) (by decide) (fun g1 => ?_) (fun g1 => ?_)
  · refine ev_ic1 (ev_dt dt_Md_save_0 12 rfl) ?_
    refine rf_pt0 (ev_dt dt_Md_save_0 13 rfl) rfl hM (fun h1 hM1 hf1 => ?_)
    refine ev_aload_0 (ev_dt dt_Md_save_0 14 rfl) ?_
    refine ev_get (v := .int (nI 1)) (ev_dt dt_Md_save_0 15 rfl) g_Md_95_10 hM1.1 rfl ?_
    refine ev_if_leF (tgt := 35) (ev_dt dt_Md_save_0 16 rfl) (by decide) (by decide +kernel) ?_
    refine ev_ic0 (ev_dt dt_Md_save_0 17 rfl) ?_
    exact ev_ireturn (ev_dt dt_Md_save_0 18 rfl) rfl rfl (kx (Or.inl (nI_nb (by decide) (Or.inl g1))) h1 hM1 hf1)
  · refine ev_iload_1 (ev_dt dt_Md_save_0 3 rfl) ?_
    refine ev_ic4 (ev_dt dt_Md_save_0 4 rfl) ?_
    refine ev_icmp_ge (tgt := 22) (ev_dt dt_Md_save_0 5 rfl) (by decide) (fun g2 => ?_) (fun g2 => ?_)
    · refine ev_ic1 (ev_dt dt_Md_save_0 12 rfl) ?_
      refine rf_pt0 (ev_dt dt_Md_save_0 13 rfl) rfl hM (fun h2 hM2 hf2 => ?_)
      refine ev_aload_0 (ev_dt dt_Md_save_0 14 rfl) ?_
      refine ev_get (v := .int (nI 1)) (ev_dt dt_Md_save_0 15 rfl) g_Md_95_10 hM2.1 rfl ?_
      refine ev_if_leF (tgt := 35) (ev_dt dt_Md_save_0 16 rfl) (by decide) (by decide +kernel) ?_
      refine ev_ic0 (ev_dt dt_Md_save_0 17 rfl) ?_
      exact ev_ireturn (ev_dt dt_Md_save_0 18 rfl) rfl rfl (kx (Or.inl (nI_nb (by decide) (Or.inr g2))) h2 hM2 hf2)
    · obtain ⟨s, hs, rfl⟩ := nI_bd (x := x) (c := 4) (by decide) g1 g2
      refine ev_aload_0 (ev_dt dt_Md_save_0 6 rfl) ?_
      refine ev_iload_2 (ev_dt dt_Md_save_0 7 rfl) ?_
      refine ev_callV (ev_dt dt_Md_save_0 8 rfl) v_Md_116_10 hM.1 [.int y] rfl np_Md_isNode rfl (ev_lk_of (j := 0) rfl rfl) (r_isNode hM (show F 2 ≤ 24 by omega) (fun (hx : ∃ j, j < F 2 ∧ y = nI j) => ev_r1 ?_) (fun (hx : ∀ j, j < F 2 → y ≠ nI j) => ev_r1 ?_))
      · obtain ⟨i, h_i, rfl⟩ := hx
        refine ev_if_eqF (tgt := 22) (ev_dt dt_Md_save_0 9 rfl) (by decide) z10 ?_
        refine ev_ic0 (ev_dt dt_Md_save_0 10 rfl) ?_
        refine ev_goto (tgt := 23) (ev_dt dt_Md_save_0 11 rfl) (by decide) ?_
        refine rf_pt0 (ev_dt dt_Md_save_0 13 rfl) rfl hM (fun h3 hM3 hf3 => ?_)
        refine ev_aload_0 (ev_dt dt_Md_save_0 14 rfl) ?_
        refine ev_get (v := .int (nI 0)) (ev_dt dt_Md_save_0 15 rfl) g_Md_95_10 hM3.1 rfl ?_
        refine ev_if_leT (tgt := 35) (ev_dt dt_Md_save_0 16 rfl) (by decide) (by decide +kernel) ?_
        refine ev_aload_0 (ev_dt dt_Md_save_0 19 rfl) ?_
        refine ev_get (v := .ref (m + 11)) (ev_dt dt_Md_save_0 20 rfl) g_Md_41_10 hM3.1 rfl ?_
        refine ev_iload_1 (ev_dt dt_Md_save_0 21 rfl) ?_
        refine ev_aload_0 (ev_dt dt_Md_save_0 22 rfl) ?_
        refine ev_get (v := .ref (m + 11)) (ev_dt dt_Md_save_0 23 rfl) g_Md_41_10 hM3.1 rfl ?_
        refine ev_ic4 (ev_dt dt_Md_save_0 24 rfl) ?_
        refine ev_iald (f := A 10) (ev_dt dt_Md_save_0 25 rfl) hM3.a10 (by omega) (by decide) rfl ?_
        refine rf_st10 (ev_dt dt_Md_save_0 26 rfl) hM3 (by omega) (fun h4 hM4 hf4 => ?_)
        replace hf4 := hf3.tr hf4
        refine ev_ic0 (ev_dt dt_Md_save_0 27 rfl) ?_
        refine ev_istore_3 (ev_dt dt_Md_save_0 28 rfl) (by decide) rfl ?_
        have loop : ∀ m' j A' h', j + m' = 4 → cA (uA A 10 s (A 10 4)) A' s j → Rf E m (uF F 0 0) A' h' → fR m h h' → Ev E m_Md_save (d + 6) 49 [some (.ref m), some (.int (nI s)), some (.int (nI i)), some (.int (nI j))] [] h' sz k n Q := by
          intro m'
          induction m' with
          | zero =>
            intro j A' h' hj hA hM' hf'
            refine ev_iload_3 (ev_dt dt_Md_save_0 29 rfl) ?_
            refine ev_ic4 (ev_dt dt_Md_save_0 30 rfl) ?_
            refine ev_icmp_geT (tgt := 117) (ev_dt dt_Md_save_0 31 rfl) (by decide) (nI_le (by omega) (by omega)) ?_
            obtain rfl : j = 4 := by omega
            refine ev_aload_0 (ev_dt dt_Md_save_1 16 rfl) ?_
            refine ev_get (v := .ref (m + 15)) (ev_dt dt_Md_save_1 17 rfl) g_Md_53_10 hM'.1 rfl ?_
            refine ev_iload_1 (ev_dt dt_Md_save_1 18 rfl) ?_
            refine ev_ic1 (ev_dt dt_Md_save_1 19 rfl) ?_
            refine rf_st14 (ev_dt dt_Md_save_1 20 rfl) hM' (by omega) bz1 (fun h51 hM51 hf51 => ?_)
            replace hf51 := hf'.tr hf51
            refine ev_aload_0 (ev_dt dt_Md_save_1 21 rfl) ?_
            refine ev_get (v := .ref (m + 16)) (ev_dt dt_Md_save_1 22 rfl) g_Md_56_10 hM51.1 rfl ?_
            refine ev_iload_1 (ev_dt dt_Md_save_1 23 rfl) ?_
            refine ev_iload_2 (ev_dt dt_Md_save_1 24 rfl) ?_
            refine rf_st15 (ev_dt dt_Md_save_1 25 rfl) hM51 (by omega) (fun h52 hM52 hf52 => ?_)
            replace hf52 := hf51.tr hf52
            refine ev_aload_0 (ev_dt dt_Md_save_1 26 rfl) ?_
            refine ev_iload_1 (ev_dt dt_Md_save_1 27 rfl) ?_
            have hq : qA A (uA (uA A' 14 s (nI 1)) 15 s (nI i)) s i := ⟨fun a a10 a11 a12 a13 a14 a15 => by rw [uA_a a15, uA_a a14, hA.1 a a11 a12 a13, uA_a a10], by rw [uA_a (by decide), uA_a (by decide), hA.1 10 (by decide) (by decide) (by decide), uA_u], by rw [uA_a (by decide), uA_a (by decide)]; have := hA.2.1; rw [uA_a (by decide)] at this; exact this, by rw [uA_a (by decide), uA_a (by decide)]; have := hA.2.2.1; rw [uA_a (by decide)] at this; exact this, by rw [uA_a (by decide), uA_a (by decide)]; have := hA.2.2.2; rw [uA_a (by decide)] at this; exact this, by rw [uA_a (by decide), uA_u, hA.1 14 (by decide) (by decide) (by decide), uA_a (by decide)], by rw [uA_u, uA_a (by decide), hA.1 15 (by decide) (by decide) (by decide), uA_a (by decide)]⟩
            refine ev_callV (ev_dt dt_Md_save_1 28 rfl) v_Md_176_10 hM52.1 [.int (nI s)] rfl np_Md_readNow rfl (ev_lk_of (j := 2) rfl rfl) (r_readNow (d := d) hM52 (qA_RS hS hq) hnc (qA_RC hC hq hs) hs (by rw [hq.2.2.2.2.2.2, pk_us]) hF1 (show i < nc by omega) (fun h8 A8 hA8 hI8 hO8 hM8 hf8 => ev_r1 ?_))
            rw [qA_pR hq, qA_rV hq] at hI8 ⊢
            replace hf8 := hf52.tr hf8
            exact ev_ireturn (ev_dt dt_Md_save_1 29 rfl) rfl rfl (kk s i hs rfl h_i rfl h8 _ A8 hq hA8 hI8 hO8 hM8 hf8)
          | succ m' ih =>
            intro j A' h' hj hA hM' hf'
            refine ev_iload_3 (ev_dt dt_Md_save_0 29 rfl) ?_
            refine ev_ic4 (ev_dt dt_Md_save_0 30 rfl) ?_
            refine ev_icmp_geF (tgt := 117) (ev_dt dt_Md_save_0 31 rfl) (by decide) (nI_ge (by omega) (by omega)) ?_
            refine ev_aload_0 (ev_dt dt_Md_save_0 32 rfl) ?_
            refine ev_get (v := .ref (m + 12)) (ev_dt dt_Md_save_0 33 rfl) g_Md_44_10 hM'.1 rfl ?_
            refine ev_ic4 (ev_dt dt_Md_save_0 34 rfl) ?_
            refine ev_iload_1 (ev_dt dt_Md_save_0 35 rfl) ?_
            refine ev_imul (ev_dt dt_Md_save_0 36 rfl) (nI_mul _ _) ?_
            refine ev_iload_3 (ev_dt dt_Md_save_0 37 rfl) ?_
            refine ev_addn (ev_dt dt_Md_save_0 38 rfl) ?_
            refine ev_aload_0 (ev_dt dt_Md_save_0 39 rfl) ?_
            refine ev_get (v := .ref (m + 12)) (ev_dt dt_Md_save_0 40 rfl) g_Md_44_10 hM'.1 rfl ?_
            refine ev_bipush (ev_dt dt_Md_save_0 41 rfl) bi_16 ?_
            refine ev_iload_3 (ev_dt dt_Md_save_0 42 rfl) ?_
            refine ev_addn (ev_dt dt_Md_save_0 43 rfl) ?_
            refine ev_iald (f := A' 11) (ev_dt dt_Md_save_0 44 rfl) hM'.a11 (by omega) (by decide) rfl ?_
            refine rf_st11 (ev_dt dt_Md_save_0 45 rfl) hM' (by omega) (fun h53 hM53 hf53 => ?_)
            replace hf53 := hf'.tr hf53
            refine ev_aload_0 (ev_dt dt_Md_save_0 46 rfl) ?_
            refine ev_get (v := .ref (m + 13)) (ev_dt dt_Md_save_0 47 rfl) g_Md_47_10 hM53.1 rfl ?_
            refine ev_ic4 (ev_dt dt_Md_save_0 48 rfl) ?_
            refine ev_iload_1 (ev_dt dt_Md_save_0 49 rfl) ?_
            refine ev_imul (ev_dt dt_Md_save_0 50 rfl) (nI_mul _ _) ?_
            refine ev_iload_3 (ev_dt dt_Md_save_0 51 rfl) ?_
            refine ev_addn (ev_dt dt_Md_save_0 52 rfl) ?_
            refine ev_aload_0 (ev_dt dt_Md_save_0 53 rfl) ?_
            refine ev_get (v := .ref (m + 13)) (ev_dt dt_Md_save_0 54 rfl) g_Md_47_10 hM53.1 rfl ?_
            refine ev_bipush (ev_dt dt_Md_save_0 55 rfl) bi_16 ?_
            refine ev_iload_3 (ev_dt dt_Md_save_0 56 rfl) ?_
            refine ev_addn (ev_dt dt_Md_save_0 57 rfl) ?_
            refine ev_iald (f := A' 12) (ev_dt dt_Md_save_0 58 rfl) hM53.a12 (by omega) (by decide) rfl ?_
            refine rf_st12 (ev_dt dt_Md_save_0 59 rfl) hM53 (by omega) (fun h54 hM54 hf54 => ?_)
            replace hf54 := hf53.tr hf54
            refine ev_aload_0 (ev_dt dt_Md_save_1 0 rfl) ?_
            refine ev_get (v := .ref (m + 14)) (ev_dt dt_Md_save_1 1 rfl) g_Md_50_10 hM54.1 rfl ?_
            refine ev_ic4 (ev_dt dt_Md_save_1 2 rfl) ?_
            refine ev_iload_1 (ev_dt dt_Md_save_1 3 rfl) ?_
            refine ev_imul (ev_dt dt_Md_save_1 4 rfl) (nI_mul _ _) ?_
            refine ev_iload_3 (ev_dt dt_Md_save_1 5 rfl) ?_
            refine ev_addn (ev_dt dt_Md_save_1 6 rfl) ?_
            refine ev_aload_0 (ev_dt dt_Md_save_1 7 rfl) ?_
            refine ev_get (v := .ref (m + 14)) (ev_dt dt_Md_save_1 8 rfl) g_Md_50_10 hM54.1 rfl ?_
            refine ev_bipush (ev_dt dt_Md_save_1 9 rfl) bi_16 ?_
            refine ev_iload_3 (ev_dt dt_Md_save_1 10 rfl) ?_
            refine ev_addn (ev_dt dt_Md_save_1 11 rfl) ?_
            refine ev_iald (f := A' 13) (ev_dt dt_Md_save_1 12 rfl) hM54.a13 (by omega) (by decide) rfl ?_
            refine rf_st13 (ev_dt dt_Md_save_1 13 rfl) hM54 (by omega) (fun h55 hM55 hf55 => ?_)
            replace hf55 := hf54.tr hf55
            refine ev_inc1_3 (ev_dt dt_Md_save_1 14 rfl) (by decide) rfl ?_
            refine ev_goto (tgt := 49) (ev_dt dt_Md_save_1 15 rfl) (by decide) ?_
            exact ih (j + 1) _ _ (by omega) (cA_s hA hs (by omega)) hM55 hf55
        exact loop 4 0 _ _ (by omega) ⟨fun _ _ _ _ => rfl, cp_0, cp_0, cp_0⟩ hM4 hf4
      · refine ev_if_eqT (tgt := 22) (ev_dt dt_Md_save_0 9 rfl) (by decide) z00 ?_
        refine ev_ic1 (ev_dt dt_Md_save_0 12 rfl) ?_
        refine rf_pt0 (ev_dt dt_Md_save_0 13 rfl) rfl hM (fun h5 hM5 hf5 => ?_)
        refine ev_aload_0 (ev_dt dt_Md_save_0 14 rfl) ?_
        refine ev_get (v := .int (nI 1)) (ev_dt dt_Md_save_0 15 rfl) g_Md_95_10 hM5.1 rfl ?_
        refine ev_if_leF (tgt := 35) (ev_dt dt_Md_save_0 16 rfl) (by decide) (by decide +kernel) ?_
        refine ev_ic0 (ev_dt dt_Md_save_0 17 rfl) ?_
        exact ev_ireturn (ev_dt dt_Md_save_0 18 rfl) rfl rfl (kx (Or.inr hx) h5 hM5 hf5)
end R15
