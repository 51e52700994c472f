/-! saved, in the reference (written by gen_r14.py over walk.py). -/
section R14
variable {E : ev_E} {d : Nat} {h : ev_h} {sz k n : Nat} {Q : ev_Q}
variable {m : Nat} {F : Nat → Nat} {A : Nat → Nat → Int32}
theorem r_saved {x y z : Int32} {nc : Nat} {N : nod} {ed : Nat → Nat → Int32} {zs : Nat → Nat} {T : Nat → Bool} {cc : Nat → Nat} {cn co : Nat → Nat → Nat} {th : Nat → Nat → Int32} {sv : Nat → Bool} {qi : Nat → Nat} (hM : Rf E m F A h) (hS : RS A nc N ed zs) (hnc : nc ≤ 24) (hsv : ∀ s, s < 4 → A 14 s = b2 (sv s)) (hC : ∀ s, s < 4 → sv s = true → RC A T s (cc s) (cn s) (co s) (th s) ∧ A 15 s = nI (qi s) ∧ qi s < nc) (hF1 : F 1 ≤ 120) {sn : Nat → Nat → Bool} (hsn : ∀ s, s < 4 → ∀ v, v < 120 → A 16 (120 * s + v) = b2 (sn s v)) (kn : (∀ s, s < 4 → x ≠ nI s) ∨ (∀ w, w ≤ 2 → y ≠ nI w) ∨ (∃ s, s < 4 ∧ x = nI s ∧ sv s = false) → ∀ h', Rf E m (uF F 0 0) A h' → fR m h h' → Q (.returned (some (.int (-1)))) h' sz k n) (kk : ∀ s w, s < 4 → x = nI s → w ≤ 2 → y = nI w → sv s = true → ∀ h' A', mA A A' → Rf E m (uF F 0 0) A' h' → fR m h h' → ∀ r, pkR (F 1) (fun v => sW w (ub (F 1) (pR A T (cc s) (cn s) (co s) (th s)) (bN N (rV A) (qi s)) v) (sn s v)) (fun v => nI v) z r → Q (.returned (some (.int r))) h' sz k n) : Ev E m_Md_saved (d + 6) 0 [some (.ref m), some (.int x), some (.int y), some (.int z), none, none, none, none, none] [] h sz k n Q := by
  refine ev_aload_0 (ev_dt dt_Md_saved_0 0 rfl) ?_
  refine ev_ic0 (ev_dt dt_Md_saved_0 1 rfl) ?_
  refine rf_pt0 (ev_dt dt_Md_saved_0 2 rfl) rfl hM (fun h1 hM1 hf1 => ?_)
  refine ev_iload_1 (ev_dt dt_Md_saved_0 3 rfl) ?_
  refine ev_if_lt (tgt := 23) (ev_dt dt_Md_saved_0 4 rfl) (by decide) (fun g1 => ?_) (fun g1 => ?_)
  · refine ev_icm (ev_dt dt_Md_saved_0 13 rfl) ?_
    exact ev_ireturn (ev_dt dt_Md_saved_0 14 rfl) rfl rfl (kn (Or.inl (nI_nb (by decide) (Or.inl g1))) h1 hM1 hf1)
  · refine ev_iload_1 (ev_dt dt_Md_saved_0 5 rfl) ?_
    refine ev_ic3 (ev_dt dt_Md_saved_0 6 rfl) ?_
    refine ev_icmp_gt (tgt := 23) (ev_dt dt_Md_saved_0 7 rfl) (by decide) (fun g2 => ?_) (fun g2 => ?_)
    · refine ev_icm (ev_dt dt_Md_saved_0 13 rfl) ?_
      exact ev_ireturn (ev_dt dt_Md_saved_0 14 rfl) rfl rfl (kn (Or.inl (nI_nb (by decide) (Or.inr (nI_3gt g2)))) h1 hM1 hf1)
    · obtain ⟨s, hs, rfl⟩ := nI_bd (x := x) (c := 4) (by decide) g1 (fun e => g2 (Int32.lt_of_lt_of_le (by decide +kernel) e))
      refine ev_iload_2 (ev_dt dt_Md_saved_0 8 rfl) ?_
      refine ev_if_lt (tgt := 23) (ev_dt dt_Md_saved_0 9 rfl) (by decide) (fun g3 => ?_) (fun g3 => ?_)
      · refine ev_icm (ev_dt dt_Md_saved_0 13 rfl) ?_
        exact ev_ireturn (ev_dt dt_Md_saved_0 14 rfl) rfl rfl (kn (Or.inr (Or.inl (fun w hw e => by subst e; exact nI_pos (by omega) g3))) h1 hM1 hf1)
      · refine ev_iload_2 (ev_dt dt_Md_saved_0 10 rfl) ?_
        refine ev_ic2 (ev_dt dt_Md_saved_0 11 rfl) ?_
        refine ev_icmp_le (tgt := 25) (ev_dt dt_Md_saved_0 12 rfl) (by decide) (fun g4 => ?_) (fun g4 => ?_)
        · obtain ⟨w, hw, rfl⟩ := nI_012 g3 g4
          refine ev_aload_0 (ev_dt dt_Md_saved_0 15 rfl) ?_
          refine ev_get (v := .ref (m + 15)) (ev_dt dt_Md_saved_0 16 rfl) g_Md_53_10 hM1.1 rfl ?_
          refine ev_iload_1 (ev_dt dt_Md_saved_0 17 rfl) ?_
          refine ev_zald (f := A 14) (ev_dt dt_Md_saved_0 18 rfl) hM1.a14 (by omega) (by decide) rfl ?_
          rw [hsv s hs]
          refine ev_if_ne (tgt := 36) (ev_dt dt_Md_saved_0 19 rfl) (by decide) (fun g5 => ?_) (fun g5 => ?_)
          · have g5' := b2_1 g5
            obtain ⟨hCs, hqs, hqn⟩ := hC s hs g5'
            refine ev_aload_0 (ev_dt dt_Md_saved_0 22 rfl) ?_
            refine ev_aload_0 (ev_dt dt_Md_saved_0 23 rfl) ?_
            refine ev_get (v := .ref (m + 16)) (ev_dt dt_Md_saved_0 24 rfl) g_Md_56_10 hM1.1 rfl ?_
            refine ev_iload_1 (ev_dt dt_Md_saved_0 25 rfl) ?_
            refine ev_iald (f := A 15) (ev_dt dt_Md_saved_0 26 rfl) hM1.a15 (by omega) (by decide) rfl ?_
            rw [hqs]
            refine ev_iload_1 (ev_dt dt_Md_saved_0 27 rfl) ?_
            refine ev_ic4 (ev_dt dt_Md_saved_0 28 rfl) ?_
            refine ev_callV (ev_dt dt_Md_saved_0 29 rfl) v_Md_166_10 hM1.1 [.int (nI (qi s)), .int (nI s), .int (nI 4)] rfl np_Md_mark rfl (ev_lk_of (j := 4) rfl rfl) (r_mark (d := d + 1) (b := 4) hM1 hS hnc hCs hF1 hqn (by omega) (fun h8 A8 hA8 hM8 hf8 hW8 => ev_r1 ?_))
            replace hf8 := hf1.tr hf8
            rw [kB_N] at hW8 ⊢
            refine ev_istore_4 (ev_dt dt_Md_saved_0 30 rfl) (by decide) rfl ?_
            refine ev_ic0 (ev_dt dt_Md_saved_0 31 rfl) ?_
            refine ev_istore_5 (ev_dt dt_Md_saved_0 32 rfl) (by decide) rfl ?_
            refine ev_ic0 (ev_dt dt_Md_saved_0 33 rfl) ?_
            refine ev_istore_6 (ev_dt dt_Md_saved_0 34 rfl) (by decide) rfl ?_
            refine ev_fg_4 ?_
            exact r_saved_in (s := s) (w := w) (U := (ub (F 1) (pR A T (cc s) (cn s) (co s) (th s)) (bN N (rV A) (qi s)))) (sn := sn s) hM8 hF1 hs hw hW8 (fun v hv => by rw [hA8 16 (by decide) (by decide)]; exact hsn s hs v hv) (fun r hr => kk s w hs rfl hw rfl g5' h8 A8 hA8 hM8 hf8 r hr) (F 1) 0 (by omega) (fun v hv => absurd hv (Nat.not_lt_zero _))
          · refine ev_icm (ev_dt dt_Md_saved_0 20 rfl) ?_
            exact ev_ireturn (ev_dt dt_Md_saved_0 21 rfl) rfl rfl (kn (Or.inr (Or.inr ⟨s, hs, rfl, b2_0.mp g5⟩)) h1 hM1 hf1)
        · refine ev_icm (ev_dt dt_Md_saved_0 13 rfl) ?_
          exact ev_ireturn (ev_dt dt_Md_saved_0 14 rfl) rfl rfl (kn (Or.inr (Or.inl (fun w hw e => by subst e; exact g4 (nI_le hw (by omega))))) h1 hM1 hf1)
end R14
