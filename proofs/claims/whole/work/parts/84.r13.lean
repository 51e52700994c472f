/-! read and saved, in the reference (written by gen_r13.py over walk.py). -/
/-- what is asked of a saved question: u now, s when last read -/
def sW (w : Nat) (u s : Bool) : Bool := if w = 0 then u else if w = 1 then u && !s else s && !u
section R13
variable {E : ev_E} {d : Nat} {h : ev_h} {sz k n : Nat} {Q : ev_Q}
variable {m : Nat} {F : Nat → Nat} {A : Nat → Nat → Int32}
theorem nI_3gt {x : Int32} (h : nI 3 < x) : nI 4 ≤ x := by
  rw [Int32.le_iff_toInt_le, nI_toInt (by decide)]
  rw [Int32.lt_iff_toInt_lt, nI_toInt (by decide)] at h
  omega
theorem nI_012 {y : Int32} (h0 : ¬ y < 0) (h2 : y ≤ nI 2) : ∃ w, w ≤ 2 ∧ y = nI w := by
  obtain ⟨j, hj, rfl⟩ := nI_of h0
  rw [nI_leI hj (by omega)] at h2
  exact ⟨j, h2, rfl⟩
theorem r_read {x : Int32} {nc : Nat} {N : nod} {ed : Nat → Nat → Int32} {zs : Nat → Nat} {T : Nat → Bool} {cc : Nat → Nat} {cn co : Nat → Nat → Nat} {th : Nat → Nat → Int32} {sv : Nat → Bool} {qi : Nat → Nat} (hM : Rf E m F A h) (hS : RS A nc N ed zs) (hnc : nc ≤ 24) (hsv : ∀ s, s < 4 → A 14 s = b2 (sv s)) (hC : ∀ s, s < 4 → sv s = true → RC A T s (cc s) (cn s) (co s) (th s) ∧ A 15 s = nI (qi s) ∧ qi s < nc) (hF1 : F 1 ≤ 120) (kf : (∀ s, s < 4 → x ≠ nI s) ∨ (∃ s, s < 4 ∧ x = nI s ∧ sv s = false) → ∀ h', Rf E m (uF F 0 0) A h' → fR m h h' → Q (.returned (some (.int (nI 0)))) h' sz k n) (kt : ∀ s, s < 4 → x = nI s → sv s = true → ∀ h' A', eA A A' → (∀ v, v < 120 → A' 16 (120 * s + v) = b2 (decide (v < F 1) && ub (F 1) (pR A T (cc s) (cn s) (co s) (th s)) (bN N (rV A) (qi s)) v)) → (∀ z, z < 120 * s ∨ 120 * s + 120 ≤ z → A' 16 z = A 16 z) → Rf E m (uF F 0 0) A' h' → fR m h h' → Q (.returned (some (.int (nI 1)))) h' sz k n) : Ev E m_Md_read (d + 6) 0 [some (.ref m), some (.int x), none] [] h sz k n Q := by
  refine ev_aload_0 (ev_dt dt_Md_read_0 0 rfl) ?_
  refine ev_ic0 (ev_dt dt_Md_read_0 1 rfl) ?_
  refine rf_pt0 (ev_dt dt_Md_read_0 2 rfl) rfl hM (fun h1 hM1 hf1 => ?_)
  refine ev_iload_1 (ev_dt dt_Md_read_0 3 rfl) ?_
  refine ev_if_lt (tgt := 14) (ev_dt dt_Md_read_0 4 rfl) (by decide) (fun g1 => ?_) (fun g1 => ?_)
  · refine ev_ic0 (ev_dt dt_Md_read_0 8 rfl) ?_
    exact ev_ireturn (ev_dt dt_Md_read_0 9 rfl) rfl bz0 (kf (Or.inl (nI_nb (by decide) (Or.inl g1))) h1 hM1 hf1)
  · refine ev_iload_1 (ev_dt dt_Md_read_0 5 rfl) ?_
    refine ev_ic3 (ev_dt dt_Md_read_0 6 rfl) ?_
    refine ev_icmp_le (tgt := 16) (ev_dt dt_Md_read_0 7 rfl) (by decide) (fun g2 => ?_) (fun g2 => ?_)
    · obtain ⟨s, hs, rfl⟩ := nI_bd (x := x) (c := 4) (by decide) g1 (fun e => absurd g2 (Int32.not_le.mpr (Int32.lt_of_lt_of_le (by decide +kernel) e)))
      refine ev_aload_0 (ev_dt dt_Md_read_0 10 rfl) ?_
      refine ev_get (v := .ref (m + 15)) (ev_dt dt_Md_read_0 11 rfl) g_Md_53_10 hM1.1 rfl ?_
      refine ev_iload_1 (ev_dt dt_Md_read_0 12 rfl) ?_
      refine ev_zald (f := A 14) (ev_dt dt_Md_read_0 13 rfl) hM1.a14 (by omega) (by decide) rfl ?_
      rw [hsv s hs]
      refine ev_if_eq (tgt := 31) (ev_dt dt_Md_read_0 14 rfl) (by decide) (fun g3 => ?_) (fun g3 => ?_)
      · refine ev_aload_0 (ev_dt dt_Md_read_0 19 rfl) ?_
        refine ev_get (v := .ref (m + 15)) (ev_dt dt_Md_read_0 20 rfl) g_Md_53_10 hM1.1 rfl ?_
        refine ev_iload_1 (ev_dt dt_Md_read_0 21 rfl) ?_
        refine ev_zald (f := A 14) (ev_dt dt_Md_read_0 22 rfl) hM1.a14 (by omega) (by decide) rfl ?_
        rw [hsv s hs, b2_0.mp g3]
        exact ev_ireturn (ev_dt dt_Md_read_0 23 rfl) rfl bz0 (kf (Or.inr ⟨s, hs, rfl, b2_0.mp g3⟩) h1 hM1 hf1)
      · have g3' := b2_1 g3
        obtain ⟨hCs, hqs, hqn⟩ := hC s hs g3'
        refine ev_aload_0 (ev_dt dt_Md_read_0 15 rfl) ?_
        refine ev_iload_1 (ev_dt dt_Md_read_0 16 rfl) ?_
        refine ev_callV (ev_dt dt_Md_read_0 17 rfl) v_Md_176_10 hM1.1 [.int (nI s)] rfl np_Md_readNow rfl (ev_lk_of (j := 2) rfl rfl) (r_readNow (d := d) hM1 hS hnc hCs hs hqs hF1 hqn (fun h8 A8 hA8 hI8 hO8 hM8 hf8 => ev_r1 ?_))
        replace hf8 := hf1.tr hf8
        refine ev_istore_2 (ev_dt dt_Md_read_0 18 rfl) (by decide) rfl ?_
        refine ev_aload_0 (ev_dt dt_Md_read_0 19 rfl) ?_
        refine ev_get (v := .ref (m + 15)) (ev_dt dt_Md_read_0 20 rfl) g_Md_53_10 hM8.1 rfl ?_
        refine ev_iload_1 (ev_dt dt_Md_read_0 21 rfl) ?_
        refine ev_zald (f := A8 14) (ev_dt dt_Md_read_0 22 rfl) hM8.a14 (by omega) (by decide) rfl ?_
        rw [hA8 14 (by decide) (by decide) (by decide), hsv s hs, g3']
        exact ev_ireturn (ev_dt dt_Md_read_0 23 rfl) rfl bz1 (kt s hs rfl g3' h8 A8 hA8 hI8 hO8 hM8 hf8)
    · refine ev_ic0 (ev_dt dt_Md_read_0 8 rfl) ?_
      exact ev_ireturn (ev_dt dt_Md_read_0 9 rfl) rfl bz0 (kf (Or.inl (nI_nb (by decide) (Or.inr (nI_3gt (Int32.not_le.mp g2))))) h1 hM1 hf1)
theorem r_saved_in {s w : Nat} {z : Int32} {U sn : Nat → Bool} {h' : ev_h} {A' : Nat → Nat → Int32} (hM' : Rf E m (uF F 0 0) A' h') (hF1 : F 1 ≤ 120) (hs : s < 4) (hw : w ≤ 2) (hW : ∀ v, v < F 1 → A' 17 v = b2 (U v)) (hsn : ∀ v, v < 120 → A' 16 (120 * s + v) = b2 (sn v)) (kk : ∀ r, pkR (F 1) (fun v => sW w (U v) (sn v)) (fun v => nI v) z r → Q (.returned (some (.int r))) h' sz k n) : ∀ m' j, j + m' = F 1 → (∀ v, v < j → (fun v => sW w (U v) (sn v)) v = true → z ≠ nI (cnt (fun v => sW w (U v) (sn v)) v)) → Ev E m_Md_saved (d + 6) 56 [some (.ref m), some (.int (nI s)), some (.int (nI w)), some (.int z), none, some (.int (nI (cnt (fun v => sW w (U v) (sn v)) j))), some (.int (nI j)), none, none] [] h' sz k n Q := by
    intro m'
    induction m' with
    | zero =>
      intro j hj hI
      refine ev_iload_6 (ev_dt dt_Md_saved_0 35 rfl) ?_
      refine ev_aload_0 (ev_dt dt_Md_saved_0 36 rfl) ?_
      refine ev_get (v := .int (nI (F 1))) (ev_dt dt_Md_saved_0 37 rfl) g_Md_99_10 hM'.1 rfl ?_
      refine ev_icmp_geT (tgt := 178) (ev_dt dt_Md_saved_0 38 rfl) (by decide) (nI_le (by omega) (by omega)) ?_
      obtain rfl : j = F 1 := by omega
      refine ev_iload_3 (ev_dt dt_Md_saved_1 37 rfl) ?_
      refine ev_icm (ev_dt dt_Md_saved_1 38 rfl) ?_
      refine ev_icmp_ne (tgt := 188) (ev_dt dt_Md_saved_1 39 rfl) (by decide) (fun g1 => ?_) (fun g1 => ?_)
      · refine ev_icm (ev_dt dt_Md_saved_1 42 rfl) ?_
        exact ev_ireturn (ev_dt dt_Md_saved_1 43 rfl) rfl rfl (kk _ (Or.inr ⟨hI, by rw [if_neg g1]⟩))
      · refine ev_iload_5 (ev_dt dt_Md_saved_1 40 rfl) ?_
        refine ev_goto (tgt := 189) (ev_dt dt_Md_saved_1 41 rfl) (by decide) ?_
        exact ev_ireturn (ev_dt dt_Md_saved_1 43 rfl) rfl rfl (kk _ (Or.inr ⟨hI, by rw [if_pos g1]⟩))
    | succ m' ih =>
      intro j hj hI
      refine ev_iload_6 (ev_dt dt_Md_saved_0 35 rfl) ?_
      refine ev_aload_0 (ev_dt dt_Md_saved_0 36 rfl) ?_
      refine ev_get (v := .int (nI (F 1))) (ev_dt dt_Md_saved_0 37 rfl) g_Md_99_10 hM'.1 rfl ?_
      refine ev_icmp_geF (tgt := 178) (ev_dt dt_Md_saved_0 38 rfl) (by decide) (nI_ge (by omega) (by omega)) ?_
      refine ev_aload_0 (ev_dt dt_Md_saved_0 39 rfl) ?_
      refine ev_get (v := .ref (m + 17)) (ev_dt dt_Md_saved_0 40 rfl) g_Md_59_10 hM'.1 rfl ?_
      refine ev_bipush (ev_dt dt_Md_saved_0 41 rfl) bi_120 ?_
      refine ev_iload_1 (ev_dt dt_Md_saved_0 42 rfl) ?_
      refine ev_imul (ev_dt dt_Md_saved_0 43 rfl) (nI_mul _ _) ?_
      refine ev_iload_6 (ev_dt dt_Md_saved_0 44 rfl) ?_
      refine ev_addn (ev_dt dt_Md_saved_0 45 rfl) ?_
      refine ev_zald (f := A' 16) (ev_dt dt_Md_saved_0 46 rfl) hM'.a16 (by omega) (by decide) rfl ?_
      rw [hsn j (by omega)]
      refine ev_istore_7 (ev_dt dt_Md_saved_0 47 rfl) (by decide) rfl ?_
      refine ev_iload_2 (ev_dt dt_Md_saved_0 48 rfl) ?_
      obtain hw' | hw' | hw' : w = 0 ∨ w = 1 ∨ w = 2 := by omega
      · subst hw'
        refine ev_if_neF (tgt := 93) (ev_dt dt_Md_saved_0 49 rfl) (by decide) (by decide +kernel) ?_
        refine ev_aload_0 (ev_dt dt_Md_saved_0 50 rfl) ?_
        refine ev_get (v := .ref (m + 18)) (ev_dt dt_Md_saved_0 51 rfl) g_Md_62_10 hM'.1 rfl ?_
        refine ev_iload_6 (ev_dt dt_Md_saved_0 52 rfl) ?_
        refine ev_zald (f := A' 17) (ev_dt dt_Md_saved_0 53 rfl) hM'.a17 (by omega) (by decide) rfl ?_
        rw [hW j (by omega)]
        cases hu : U j with
        | false =>
          show Ev E m_Md_saved (d + 6) 90 [some (.ref m), some (.int (nI s)), some (.int (nI 0)), some (.int z), none, some (.int (nI (cnt (fun v => sW 0 (U v) (sn v)) j))), some (.int (nI j)), some (.int (b2 (sn j))), none] [.int (nI 0)] h' sz k n Q
          have hSj : sW 0 (U j) (sn j) = false := hu
          refine ev_goto (tgt := 141) (ev_dt dt_Md_saved_0 54 rfl) (by decide) ?_
          refine ev_istore_8 (ev_dt dt_Md_saved_1 19 rfl) (by decide) rfl ?_
          refine ev_iload_8 (ev_dt dt_Md_saved_1 20 rfl) ?_
          refine ev_if_eqT (tgt := 157) (ev_dt dt_Md_saved_1 21 rfl) (by decide) z00 ?_
          refine ev_iload_5 (ev_dt dt_Md_saved_1 27 rfl) ?_
          refine ev_iload_8 (ev_dt dt_Md_saved_1 28 rfl) ?_
          refine ev_if_eqT (tgt := 168) (ev_dt dt_Md_saved_1 29 rfl) (by decide) z00 ?_
          refine ev_ic0 (ev_dt dt_Md_saved_1 32 rfl) ?_
          refine ev_addn (ev_dt dt_Md_saved_1 33 rfl) ?_
          refine ev_istore_5 (ev_dt dt_Md_saved_1 34 rfl) (by decide) rfl ?_
          refine ev_inc1_6 (ev_dt dt_Md_saved_1 35 rfl) (by decide) rfl ?_
          refine ev_goto (tgt := 56) (ev_dt dt_Md_saved_1 36 rfl) (by decide) ?_
          have e : cnt (fun v => sW 0 (U v) (sn v)) (j + 1) = cnt (fun v => sW 0 (U v) (sn v)) j + 0 := by rw [cnt, hSj]; rfl
          rw [← e]
          refine ev_fg_7 (ev_fg_8 ?_)
          exact ih (j + 1) (by omega) (fun v hv hSv => hI v (by
            have : v ≠ j := fun q => by subst q; exact absurd (hSv.symm.trans hSj) (by decide)
            omega) hSv)
        | true =>
          show Ev E m_Md_saved (d + 6) 90 [some (.ref m), some (.int (nI s)), some (.int (nI 0)), some (.int z), none, some (.int (nI (cnt (fun v => sW 0 (U v) (sn v)) j))), some (.int (nI j)), some (.int (b2 (sn j))), none] [.int (nI 1)] h' sz k n Q
          have hSj : sW 0 (U j) (sn j) = true := hu
          refine ev_goto (tgt := 141) (ev_dt dt_Md_saved_0 54 rfl) (by decide) ?_
          refine ev_istore_8 (ev_dt dt_Md_saved_1 19 rfl) (by decide) rfl ?_
          refine ev_iload_8 (ev_dt dt_Md_saved_1 20 rfl) ?_
          refine ev_if_eqF (tgt := 157) (ev_dt dt_Md_saved_1 21 rfl) (by decide) z10 ?_
          refine ev_iload_5 (ev_dt dt_Md_saved_1 22 rfl) ?_
          refine ev_iload_3 (ev_dt dt_Md_saved_1 23 rfl) ?_
          refine ev_icmp_ne (tgt := 157) (ev_dt dt_Md_saved_1 24 rfl) (by decide) (fun g9 => ?_) (fun g9 => ?_)
          · refine ev_iload_5 (ev_dt dt_Md_saved_1 27 rfl) ?_
            refine ev_iload_8 (ev_dt dt_Md_saved_1 28 rfl) ?_
            refine ev_if_eqF (tgt := 168) (ev_dt dt_Md_saved_1 29 rfl) (by decide) z10 ?_
            refine ev_ic1 (ev_dt dt_Md_saved_1 30 rfl) ?_
            refine ev_goto (tgt := 169) (ev_dt dt_Md_saved_1 31 rfl) (by decide) ?_
            refine ev_addn (ev_dt dt_Md_saved_1 33 rfl) ?_
            refine ev_istore_5 (ev_dt dt_Md_saved_1 34 rfl) (by decide) rfl ?_
            refine ev_inc1_6 (ev_dt dt_Md_saved_1 35 rfl) (by decide) rfl ?_
            refine ev_goto (tgt := 56) (ev_dt dt_Md_saved_1 36 rfl) (by decide) ?_
            have e : cnt (fun v => sW 0 (U v) (sn v)) (j + 1) = cnt (fun v => sW 0 (U v) (sn v)) j + 1 := by rw [cnt, hSj]; rfl
            rw [← e]
            refine ev_fg_7 (ev_fg_8 ?_)
            exact ih (j + 1) (by omega) (fun v hv hSv => by
              by_cases e2 : v = j
              · subst e2; exact fun q => g9 q.symm
              · exact hI v (by omega) hSv)
          · refine ev_iload_6 (ev_dt dt_Md_saved_1 25 rfl) ?_
            exact ev_ireturn (ev_dt dt_Md_saved_1 26 rfl) rfl rfl (kk _ (Or.inl ⟨j, by omega, hSj, g9.symm, rfl⟩))
      · subst hw'
        refine ev_if_neT (tgt := 93) (ev_dt dt_Md_saved_0 49 rfl) (by decide) (by decide +kernel) ?_
        refine ev_iload_2 (ev_dt dt_Md_saved_0 55 rfl) ?_
        refine ev_ic1 (ev_dt dt_Md_saved_0 56 rfl) ?_
        refine ev_icmp_neF (tgt := 121) (ev_dt dt_Md_saved_0 57 rfl) (by decide) rfl ?_
        refine ev_aload_0 (ev_dt dt_Md_saved_0 58 rfl) ?_
        refine ev_get (v := .ref (m + 18)) (ev_dt dt_Md_saved_0 59 rfl) g_Md_62_10 hM'.1 rfl ?_
        refine ev_iload_6 (ev_dt dt_Md_saved_1 0 rfl) ?_
        refine ev_zald (f := A' 17) (ev_dt dt_Md_saved_1 1 rfl) hM'.a17 (by omega) (by decide) rfl ?_
        rw [hW j (by omega)]
        refine ev_if_eq (tgt := 117) (ev_dt dt_Md_saved_1 2 rfl) (by decide) (fun g1 => ?_) (fun g1 => ?_)
        · refine ev_ic0 (ev_dt dt_Md_saved_1 7 rfl) ?_
          refine ev_goto (tgt := 141) (ev_dt dt_Md_saved_1 8 rfl) (by decide) ?_
          have hSj : sW 1 (U j) (sn j) = false := by show (_ && _) = false; rw [b2_0.mp g1]; rfl
          refine ev_istore_8 (ev_dt dt_Md_saved_1 19 rfl) (by decide) rfl ?_
          refine ev_iload_8 (ev_dt dt_Md_saved_1 20 rfl) ?_
          refine ev_if_eqT (tgt := 157) (ev_dt dt_Md_saved_1 21 rfl) (by decide) z00 ?_
          refine ev_iload_5 (ev_dt dt_Md_saved_1 27 rfl) ?_
          refine ev_iload_8 (ev_dt dt_Md_saved_1 28 rfl) ?_
          refine ev_if_eqT (tgt := 168) (ev_dt dt_Md_saved_1 29 rfl) (by decide) z00 ?_
          refine ev_ic0 (ev_dt dt_Md_saved_1 32 rfl) ?_
          refine ev_addn (ev_dt dt_Md_saved_1 33 rfl) ?_
          refine ev_istore_5 (ev_dt dt_Md_saved_1 34 rfl) (by decide) rfl ?_
          refine ev_inc1_6 (ev_dt dt_Md_saved_1 35 rfl) (by decide) rfl ?_
          refine ev_goto (tgt := 56) (ev_dt dt_Md_saved_1 36 rfl) (by decide) ?_
          have e : cnt (fun v => sW 1 (U v) (sn v)) (j + 1) = cnt (fun v => sW 1 (U v) (sn v)) j + 0 := by rw [cnt, hSj]; rfl
          rw [← e]
          refine ev_fg_7 (ev_fg_8 ?_)
          exact ih (j + 1) (by omega) (fun v hv hSv => hI v (by
            have : v ≠ j := fun q => by subst q; exact absurd (hSv.symm.trans hSj) (by decide)
            omega) hSv)
        · refine ev_iload_7 (ev_dt dt_Md_saved_1 3 rfl) ?_
          refine ev_if_ne (tgt := 117) (ev_dt dt_Md_saved_1 4 rfl) (by decide) (fun g2 => ?_) (fun g2 => ?_)
          · refine ev_ic0 (ev_dt dt_Md_saved_1 7 rfl) ?_
            refine ev_goto (tgt := 141) (ev_dt dt_Md_saved_1 8 rfl) (by decide) ?_
            have hSj : sW 1 (U j) (sn j) = false := by show (_ && !_) = false; rw [b2_1 g2, Bool.not_true, Bool.and_false]
            refine ev_istore_8 (ev_dt dt_Md_saved_1 19 rfl) (by decide) rfl ?_
            refine ev_iload_8 (ev_dt dt_Md_saved_1 20 rfl) ?_
            refine ev_if_eqT (tgt := 157) (ev_dt dt_Md_saved_1 21 rfl) (by decide) z00 ?_
            refine ev_iload_5 (ev_dt dt_Md_saved_1 27 rfl) ?_
            refine ev_iload_8 (ev_dt dt_Md_saved_1 28 rfl) ?_
            refine ev_if_eqT (tgt := 168) (ev_dt dt_Md_saved_1 29 rfl) (by decide) z00 ?_
            refine ev_ic0 (ev_dt dt_Md_saved_1 32 rfl) ?_
            refine ev_addn (ev_dt dt_Md_saved_1 33 rfl) ?_
            refine ev_istore_5 (ev_dt dt_Md_saved_1 34 rfl) (by decide) rfl ?_
            refine ev_inc1_6 (ev_dt dt_Md_saved_1 35 rfl) (by decide) rfl ?_
            refine ev_goto (tgt := 56) (ev_dt dt_Md_saved_1 36 rfl) (by decide) ?_
            have e : cnt (fun v => sW 1 (U v) (sn v)) (j + 1) = cnt (fun v => sW 1 (U v) (sn v)) j + 0 := by rw [cnt, hSj]; rfl
            rw [← e]
            refine ev_fg_7 (ev_fg_8 ?_)
            exact ih (j + 1) (by omega) (fun v hv hSv => hI v (by
              have : v ≠ j := fun q => by subst q; exact absurd (hSv.symm.trans hSj) (by decide)
              omega) hSv)
          · refine ev_ic1 (ev_dt dt_Md_saved_1 5 rfl) ?_
            refine ev_goto (tgt := 141) (ev_dt dt_Md_saved_1 6 rfl) (by decide) ?_
            have hSj : sW 1 (U j) (sn j) = true := by show (_ && !_) = true; rw [b2_1 g1, b2_0.mp g2]; rfl
            refine ev_istore_8 (ev_dt dt_Md_saved_1 19 rfl) (by decide) rfl ?_
            refine ev_iload_8 (ev_dt dt_Md_saved_1 20 rfl) ?_
            refine ev_if_eqF (tgt := 157) (ev_dt dt_Md_saved_1 21 rfl) (by decide) z10 ?_
            refine ev_iload_5 (ev_dt dt_Md_saved_1 22 rfl) ?_
            refine ev_iload_3 (ev_dt dt_Md_saved_1 23 rfl) ?_
            refine ev_icmp_ne (tgt := 157) (ev_dt dt_Md_saved_1 24 rfl) (by decide) (fun g9 => ?_) (fun g9 => ?_)
            · refine ev_iload_5 (ev_dt dt_Md_saved_1 27 rfl) ?_
              refine ev_iload_8 (ev_dt dt_Md_saved_1 28 rfl) ?_
              refine ev_if_eqF (tgt := 168) (ev_dt dt_Md_saved_1 29 rfl) (by decide) z10 ?_
              refine ev_ic1 (ev_dt dt_Md_saved_1 30 rfl) ?_
              refine ev_goto (tgt := 169) (ev_dt dt_Md_saved_1 31 rfl) (by decide) ?_
              refine ev_addn (ev_dt dt_Md_saved_1 33 rfl) ?_
              refine ev_istore_5 (ev_dt dt_Md_saved_1 34 rfl) (by decide) rfl ?_
              refine ev_inc1_6 (ev_dt dt_Md_saved_1 35 rfl) (by decide) rfl ?_
              refine ev_goto (tgt := 56) (ev_dt dt_Md_saved_1 36 rfl) (by decide) ?_
              have e : cnt (fun v => sW 1 (U v) (sn v)) (j + 1) = cnt (fun v => sW 1 (U v) (sn v)) j + 1 := by rw [cnt, hSj]; rfl
              rw [← e]
              refine ev_fg_7 (ev_fg_8 ?_)
              exact ih (j + 1) (by omega) (fun v hv hSv => by
                by_cases e2 : v = j
                · subst e2; exact fun q => g9 q.symm
                · exact hI v (by omega) hSv)
            · refine ev_iload_6 (ev_dt dt_Md_saved_1 25 rfl) ?_
              exact ev_ireturn (ev_dt dt_Md_saved_1 26 rfl) rfl rfl (kk _ (Or.inl ⟨j, by omega, hSj, g9.symm, rfl⟩))
      · subst hw'
        refine ev_if_neT (tgt := 93) (ev_dt dt_Md_saved_0 49 rfl) (by decide) (by decide +kernel) ?_
        refine ev_iload_2 (ev_dt dt_Md_saved_0 55 rfl) ?_
        refine ev_ic1 (ev_dt dt_Md_saved_0 56 rfl) ?_
        refine ev_icmp_neT (tgt := 121) (ev_dt dt_Md_saved_0 57 rfl) (by decide) (by decide +kernel) ?_
        refine ev_iload_7 (ev_dt dt_Md_saved_1 9 rfl) ?_
        refine ev_if_eq (tgt := 140) (ev_dt dt_Md_saved_1 10 rfl) (by decide) (fun g1 => ?_) (fun g1 => ?_)
        · refine ev_ic0 (ev_dt dt_Md_saved_1 18 rfl) ?_
          have hSj : sW 2 (U j) (sn j) = false := by show (_ && !_) = false; rw [b2_0.mp g1]; rfl
          refine ev_istore_8 (ev_dt dt_Md_saved_1 19 rfl) (by decide) rfl ?_
          refine ev_iload_8 (ev_dt dt_Md_saved_1 20 rfl) ?_
          refine ev_if_eqT (tgt := 157) (ev_dt dt_Md_saved_1 21 rfl) (by decide) z00 ?_
          refine ev_iload_5 (ev_dt dt_Md_saved_1 27 rfl) ?_
          refine ev_iload_8 (ev_dt dt_Md_saved_1 28 rfl) ?_
          refine ev_if_eqT (tgt := 168) (ev_dt dt_Md_saved_1 29 rfl) (by decide) z00 ?_
          refine ev_ic0 (ev_dt dt_Md_saved_1 32 rfl) ?_
          refine ev_addn (ev_dt dt_Md_saved_1 33 rfl) ?_
          refine ev_istore_5 (ev_dt dt_Md_saved_1 34 rfl) (by decide) rfl ?_
          refine ev_inc1_6 (ev_dt dt_Md_saved_1 35 rfl) (by decide) rfl ?_
          refine ev_goto (tgt := 56) (ev_dt dt_Md_saved_1 36 rfl) (by decide) ?_
          have e : cnt (fun v => sW 2 (U v) (sn v)) (j + 1) = cnt (fun v => sW 2 (U v) (sn v)) j + 0 := by rw [cnt, hSj]; rfl
          rw [← e]
          refine ev_fg_7 (ev_fg_8 ?_)
          exact ih (j + 1) (by omega) (fun v hv hSv => hI v (by
            have : v ≠ j := fun q => by subst q; exact absurd (hSv.symm.trans hSj) (by decide)
            omega) hSv)
        · refine ev_aload_0 (ev_dt dt_Md_saved_1 11 rfl) ?_
          refine ev_get (v := .ref (m + 18)) (ev_dt dt_Md_saved_1 12 rfl) g_Md_62_10 hM'.1 rfl ?_
          refine ev_iload_6 (ev_dt dt_Md_saved_1 13 rfl) ?_
          refine ev_zald (f := A' 17) (ev_dt dt_Md_saved_1 14 rfl) hM'.a17 (by omega) (by decide) rfl ?_
          rw [hW j (by omega)]
          refine ev_if_ne (tgt := 140) (ev_dt dt_Md_saved_1 15 rfl) (by decide) (fun g2 => ?_) (fun g2 => ?_)
          · refine ev_ic0 (ev_dt dt_Md_saved_1 18 rfl) ?_
            have hSj : sW 2 (U j) (sn j) = false := by show (_ && !_) = false; rw [b2_1 g2, Bool.not_true, Bool.and_false]
            refine ev_istore_8 (ev_dt dt_Md_saved_1 19 rfl) (by decide) rfl ?_
            refine ev_iload_8 (ev_dt dt_Md_saved_1 20 rfl) ?_
            refine ev_if_eqT (tgt := 157) (ev_dt dt_Md_saved_1 21 rfl) (by decide) z00 ?_
            refine ev_iload_5 (ev_dt dt_Md_saved_1 27 rfl) ?_
            refine ev_iload_8 (ev_dt dt_Md_saved_1 28 rfl) ?_
            refine ev_if_eqT (tgt := 168) (ev_dt dt_Md_saved_1 29 rfl) (by decide) z00 ?_
            refine ev_ic0 (ev_dt dt_Md_saved_1 32 rfl) ?_
            refine ev_addn (ev_dt dt_Md_saved_1 33 rfl) ?_
            refine ev_istore_5 (ev_dt dt_Md_saved_1 34 rfl) (by decide) rfl ?_
            refine ev_inc1_6 (ev_dt dt_Md_saved_1 35 rfl) (by decide) rfl ?_
            refine ev_goto (tgt := 56) (ev_dt dt_Md_saved_1 36 rfl) (by decide) ?_
            have e : cnt (fun v => sW 2 (U v) (sn v)) (j + 1) = cnt (fun v => sW 2 (U v) (sn v)) j + 0 := by rw [cnt, hSj]; rfl
            rw [← e]
            refine ev_fg_7 (ev_fg_8 ?_)
            exact ih (j + 1) (by omega) (fun v hv hSv => hI v (by
              have : v ≠ j := fun q => by subst q; exact absurd (hSv.symm.trans hSj) (by decide)
              omega) hSv)
          · refine ev_ic1 (ev_dt dt_Md_saved_1 16 rfl) ?_
            refine ev_goto (tgt := 141) (ev_dt dt_Md_saved_1 17 rfl) (by decide) ?_
            have hSj : sW 2 (U j) (sn j) = true := by show (_ && !_) = true; rw [b2_1 g1, b2_0.mp g2]; rfl
            refine ev_istore_8 (ev_dt dt_Md_saved_1 19 rfl) (by decide) rfl ?_
            refine ev_iload_8 (ev_dt dt_Md_saved_1 20 rfl) ?_
            refine ev_if_eqF (tgt := 157) (ev_dt dt_Md_saved_1 21 rfl) (by decide) z10 ?_
            refine ev_iload_5 (ev_dt dt_Md_saved_1 22 rfl) ?_
            refine ev_iload_3 (ev_dt dt_Md_saved_1 23 rfl) ?_
            refine ev_icmp_ne (tgt := 157) (ev_dt dt_Md_saved_1 24 rfl) (by decide) (fun g9 => ?_) (fun g9 => ?_)
            · refine ev_iload_5 (ev_dt dt_Md_saved_1 27 rfl) ?_
              refine ev_iload_8 (ev_dt dt_Md_saved_1 28 rfl) ?_
              refine ev_if_eqF (tgt := 168) (ev_dt dt_Md_saved_1 29 rfl) (by decide) z10 ?_
              refine ev_ic1 (ev_dt dt_Md_saved_1 30 rfl) ?_
              refine ev_goto (tgt := 169) (ev_dt dt_Md_saved_1 31 rfl) (by decide) ?_
              refine ev_addn (ev_dt dt_Md_saved_1 33 rfl) ?_
              refine ev_istore_5 (ev_dt dt_Md_saved_1 34 rfl) (by decide) rfl ?_
              refine ev_inc1_6 (ev_dt dt_Md_saved_1 35 rfl) (by decide) rfl ?_
              refine ev_goto (tgt := 56) (ev_dt dt_Md_saved_1 36 rfl) (by decide) ?_
              have e : cnt (fun v => sW 2 (U v) (sn v)) (j + 1) = cnt (fun v => sW 2 (U v) (sn v)) j + 1 := by rw [cnt, hSj]; rfl
              rw [← e]
              refine ev_fg_7 (ev_fg_8 ?_)
              exact ih (j + 1) (by omega) (fun v hv hSv => by
                by_cases e2 : v = j
                · subst e2; exact fun q => g9 q.symm
                · exact hI v (by omega) hSv)
            · refine ev_iload_6 (ev_dt dt_Md_saved_1 25 rfl) ?_
              exact ev_ireturn (ev_dt dt_Md_saved_1 26 rfl) rfl rfl (kk _ (Or.inl ⟨j, by omega, hSj, g9.symm, rfl⟩))
end R13
