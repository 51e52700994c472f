/-! Levels, in the reference (written by gen_r9.py over walk.py). -/
/-- only what is said and levels have changed -/
def vA (A A' : Nat → Nat → Int32) : Prop := ∀ a, a ≠ 9 → a ≠ 18 → A' a = A a
theorem vA.rf {A : Nat → Nat → Int32} : vA A A := fun _ _ _ => rfl
theorem vA.said {A A' A'' : Nat → Nat → Int32} (h : vA A A') (h2 : sA A' A'') : vA A A'' := fun a h9 h18 => (h2 a h9).trans (h a h9 h18)
theorem vA.up {A A' : Nat → Nat → Int32} {i : Nat} {x : Int32} (h : vA A A') : vA A (uA A' 18 i x) := fun a h9 h18 => by rw [uA_a h18]; exact h a h9 h18
theorem RC.keptV {A A' : Nat → Nat → Int32} {T : Nat → Bool} {s cc : Nat} {cn co : Nat → Nat} {th : Nat → Int32} (h : RC A T s cc cn co th) (hA : vA A A') : RC A' T s cc cn co th := by
  unfold RC
  rw [hA 0 (by decide) (by decide), hA 10 (by decide) (by decide), hA 11 (by decide) (by decide), hA 12 (by decide) (by decide), hA 13 (by decide) (by decide)]
  exact h
theorem RS.keptV {A A' : Nat → Nat → Int32} {nc : Nat} {N : nod} {ed : Nat → Nat → Int32} {zs : Nat → Nat} (hS : RS A nc N ed zs) (h : vA A A') : RS A' nc N ed zs := by
  refine ⟨fun i hi => ?_, hS.2⟩
  rw [h 2 (by decide) (by decide), h 3 (by decide) (by decide), h 4 (by decide) (by decide), h 5 (by decide) (by decide), h 6 (by decide) (by decide), h 7 (by decide) (by decide), h 8 (by decide) (by decide)]
  exact hS.1 i hi
theorem vA_rV {A A' : Nat → Nat → Int32} (hA : vA A A') (r : Nat) : rV A' r = rV A r := by unfold rV; rw [hA 1 (by decide) (by decide)]
theorem vA_pR {A A' : Nat → Nat → Int32} {T : Nat → Bool} {cc : Nat} {cn co : Nat → Nat} {th : Nat → Int32} (hA : vA A A') (r : Nat) : pR A' T cc cn co th r = pR A T cc cn co th r := by
  unfold pR
  rw [vA_rV hA]
def lev (A : Nat → Nat → Int32) (R : Nat) (l : Nat → Nat) : Prop := ∀ v, v < R → A 18 v = nI (l v)
theorem wW_le {P : Nat → Bool} {B : Nat → Nat → Bool} {R : Nat} {l : Nat → Nat} (ho : okB P B R) (h : wW P B R l) (h24 : cnt P R ≤ 24) (v : Nat) (hv : v < R) : l v ≤ 24 := by
  cases e : P v with
  | false => have := (h v hv).1 e; omega
  | true =>
    have a := (h v hv).2 e
    have b := lz_le ho hv e
    omega
theorem lev_of {A : Nat → Nat → Int32} {R : Nat} {l f : Nat → Nat} {P : Nat → Bool} (hl : lev A R l) (h1 : ∀ v, v < R → P v = true → l v = f v) (h0 : ∀ v, v < R → P v = false → l v = 0) : lev A R (fun v => if P v = true then f v else 0) := fun v hv => by
  rw [hl v hv]
  show nI (l v) = nI (if P v = true then f v else 0)
  cases e : P v with
  | true => rw [if_pos rfl, h1 v hv e]
  | false => rw [if_neg (by decide), h0 v hv e]
theorem nI_le0 {a : Nat} (h : a < 2 ^ 31) (h0 : nI a ≤ 0) : a = 0 := Nat.eq_zero_of_not_pos (fun q => nI_nle q h h0)
section R9
variable {E : ev_E} {d : Nat} {h : ev_h} {sz k n : Nat} {Q : ev_Q}
variable {m : Nat} {F : Nat → Nat} {A : Nat → Nat → Int32}
theorem r_weigh_in {i q a : Nat} {nc : Nat} {N : nod} {ed : Nat → Nat → Int32} {zs : Nat → Nat} {T : Nat → Bool} {cc : Nat} {cn co : Nat → Nat} {th : Nat → Int32} (hS : RS A nc N ed zs) (hnc : nc ≤ 24) (hC : RC A T 4 cc cn co th) (hF1 : F 1 ≤ 120) (hi : i < nc) (ho : okB (pR A T cc cn co th) (bN N (rV A) i) (F 1)) (h24 : cnt (pR A T cc cn co th) (F 1) ≤ 24) (ha : a < F 1) (kE : ∀ A' h' l mo, vA A A' → Rf E m F A' h' → fR m h h' → lev A' (F 1) l → wI (pR A T cc cn co th) (bN N (rV A) i) (F 1) q (a + 1) 0 l mo → Ev E m_Md_weigh (d + 4) 150 [some (.ref m), some (.int (nI i)), some (.int (b2 mo)), some (.int (nI q)), some (.int (nI a)), none] [] h' sz k n Q) : ∀ m' b A' h' l mo, b + m' = F 1 → vA A A' → Rf E m F A' h' → fR m h h' → lev A' (F 1) l → wI (pR A T cc cn co th) (bN N (rV A) i) (F 1) q a b l mo → Ev E m_Md_weigh (d + 4) 67 [some (.ref m), some (.int (nI i)), some (.int (b2 mo)), some (.int (nI q)), some (.int (nI a)), some (.int (nI b))] [] h' sz k n Q := by
    intro m'
    induction m' with
    | zero =>
      intro b A' h' l mo hj hA hM' hf' hl hI
      refine ev_iload_5 (ev_dt dt_Md_weigh_0 39 rfl) ?_
      refine ev_aload_0 (ev_dt dt_Md_weigh_0 40 rfl) ?_
      refine ev_get (v := .int (nI (F 1))) (ev_dt dt_Md_weigh_0 41 rfl) g_Md_99_10 hM'.1 rfl ?_
      refine ev_icmp_geT (tgt := 150) (ev_dt dt_Md_weigh_0 42 rfl) (by decide) (nI_le (by omega) (by omega)) ?_
      refine ev_fg_5 ?_
      exact kE A' h' l mo hA hM' hf' hl (wI_next hI (Or.inl (by omega)))
    | succ m' ih =>
      intro b A' h' l mo hj hA hM' hf' hl hI
      have wle := wW_le ho hI.1 h24
      have wla := wle a ha
      have wlb := wle b (by omega)
      refine ev_iload_5 (ev_dt dt_Md_weigh_0 39 rfl) ?_
      refine ev_aload_0 (ev_dt dt_Md_weigh_0 40 rfl) ?_
      refine ev_get (v := .int (nI (F 1))) (ev_dt dt_Md_weigh_0 41 rfl) g_Md_99_10 hM'.1 rfl ?_
      refine ev_icmp_geF (tgt := 150) (ev_dt dt_Md_weigh_0 42 rfl) (by decide) (nI_ge (by omega) (by omega)) ?_
      refine ev_aload_0 (ev_dt dt_Md_weigh_0 43 rfl) ?_
      refine ev_get (v := .ref (m + 19)) (ev_dt dt_Md_weigh_0 44 rfl) g_Md_65_10 hM'.1 rfl ?_
      refine ev_iload_4 (ev_dt dt_Md_weigh_0 45 rfl) ?_
      refine ev_iald (f := A' 18) (ev_dt dt_Md_weigh_0 46 rfl) hM'.a18 (by omega) (by decide) rfl ?_
      rw [hl a ha]
      refine ev_if_le (tgt := 150) (ev_dt dt_Md_weigh_0 47 rfl) (by decide) (fun g1 => ?_) (fun g1 => ?_)
      · refine ev_fg_5 ?_
        exact kE A' h' l mo hA hM' hf' hl (wI_next hI (Or.inr ⟨ha, nI_le0 (by omega) g1⟩))
      · have g1' : 0 < l a := Nat.pos_of_ne_zero (fun e => g1 (by rw [e]; decide +kernel))
        refine ev_aload_0 (ev_dt dt_Md_weigh_0 48 rfl) ?_
        refine ev_get (v := .ref (m + 19)) (ev_dt dt_Md_weigh_0 49 rfl) g_Md_65_10 hM'.1 rfl ?_
        refine ev_iload_5 (ev_dt dt_Md_weigh_0 50 rfl) ?_
        refine ev_iald (f := A' 18) (ev_dt dt_Md_weigh_0 51 rfl) hM'.a18 (by omega) (by decide) rfl ?_
        rw [hl b (by omega)]
        refine ev_if_le (tgt := 144) (ev_dt dt_Md_weigh_0 52 rfl) (by decide) (fun g2 => ?_) (fun g2 => ?_)
        · have g2' := nI_le0 (by omega) g2
          refine ev_inc1_5 (ev_dt dt_Md_weigh_1 21 rfl) (by decide) rfl ?_
          refine ev_goto (tgt := 67) (ev_dt dt_Md_weigh_1 22 rfl) (by decide) ?_
          exact ih (b + 1) A' _ l mo (by omega) hA hM' hf' hl (wI_keep hI ha (by omega) (fun e => by omega))
        · have g2' : 0 < l b := Nat.pos_of_ne_zero (fun e => g2 (by rw [e]; decide +kernel))
          refine ev_aload_0 (ev_dt dt_Md_weigh_0 53 rfl) ?_
          refine ev_get (v := .ref (m + 19)) (ev_dt dt_Md_weigh_0 54 rfl) g_Md_65_10 hM'.1 rfl ?_
          refine ev_iload_5 (ev_dt dt_Md_weigh_0 55 rfl) ?_
          refine ev_iald (f := A' 18) (ev_dt dt_Md_weigh_0 56 rfl) hM'.a18 (by omega) (by decide) rfl ?_
          rw [hl b (by omega)]
          refine ev_aload_0 (ev_dt dt_Md_weigh_0 57 rfl) ?_
          refine ev_get (v := .ref (m + 19)) (ev_dt dt_Md_weigh_0 58 rfl) g_Md_65_10 hM'.1 rfl ?_
          refine ev_iload_4 (ev_dt dt_Md_weigh_0 59 rfl) ?_
          refine ev_iald (f := A' 18) (ev_dt dt_Md_weigh_1 0 rfl) hM'.a18 (by omega) (by decide) rfl ?_
          rw [hl a ha]
          refine ev_icmp_gt (tgt := 144) (ev_dt dt_Md_weigh_1 1 rfl) (by decide) (fun g3 => ?_) (fun g3 => ?_)
          · have g3' := (nI_ltI (by omega) (by omega)).mp g3
            refine ev_inc1_5 (ev_dt dt_Md_weigh_1 21 rfl) (by decide) rfl ?_
            refine ev_goto (tgt := 67) (ev_dt dt_Md_weigh_1 22 rfl) (by decide) ?_
            exact ih (b + 1) A' _ l mo (by omega) hA hM' hf' hl (wI_keep hI ha (by omega) (fun e => by omega))
          · have g3' : l b ≤ l a := (nI_leI (by omega) (by omega)).mp (Int32.not_lt.mp g3)
            refine ev_aload_0 (ev_dt dt_Md_weigh_1 2 rfl) ?_
            refine ev_iload_1 (ev_dt dt_Md_weigh_1 3 rfl) ?_
            refine ev_iload_4 (ev_dt dt_Md_weigh_1 4 rfl) ?_
            refine ev_iload_5 (ev_dt dt_Md_weigh_1 5 rfl) ?_
            refine ev_callV (ev_dt dt_Md_weigh_1 6 rfl) v_Md_152_10 hM'.1 [.int (nI i), .int (nI a), .int (nI b)] rfl np_Md_say rfl (ev_lk_of (j := 1) rfl rfl) (r_say (d := d) hM' (hS.keptV hA) hnc hi (by omega) (by omega) (fun h9 A9 hA9 hM9 hf9 => ev_r1 ?_))
            replace hf9 := hf'.tr hf9
            rw [vA_rV hA, vA_rV hA]
            have hl9 : lev A9 (F 1) l := fun v hv => by rw [hA9 18 (by decide)]; exact hl v hv
            refine ev_ic1 (ev_dt dt_Md_weigh_1 7 rfl) ?_
            refine ev_icmp_ne (tgt := 144) (ev_dt dt_Md_weigh_1 8 rfl) (by decide) (fun g4 => ?_) (fun g4 => ?_)
            · refine ev_inc1_5 (ev_dt dt_Md_weigh_1 21 rfl) (by decide) rfl ?_
              refine ev_goto (tgt := 67) (ev_dt dt_Md_weigh_1 22 rfl) (by decide) ?_
              exact ih (b + 1) A9 _ l mo (by omega) (hA.said hA9) hM9 hf9 hl9 (wI_keep hI ha (by omega) (fun e => g4 (by rw [of_decide_eq_true e.2.2]; rfl)))
            · refine ev_aload_0 (ev_dt dt_Md_weigh_1 9 rfl) ?_
              refine ev_get (v := .ref (m + 19)) (ev_dt dt_Md_weigh_1 10 rfl) g_Md_65_10 hM9.1 rfl ?_
              refine ev_iload_5 (ev_dt dt_Md_weigh_1 11 rfl) ?_
              refine ev_aload_0 (ev_dt dt_Md_weigh_1 12 rfl) ?_
              refine ev_get (v := .ref (m + 19)) (ev_dt dt_Md_weigh_1 13 rfl) g_Md_65_10 hM9.1 rfl ?_
              refine ev_iload_4 (ev_dt dt_Md_weigh_1 14 rfl) ?_
              refine ev_iald (f := A9 18) (ev_dt dt_Md_weigh_1 15 rfl) hM9.a18 (by omega) (by decide) rfl ?_
              rw [hl9 a ha]
              refine ev_ic1 (ev_dt dt_Md_weigh_1 16 rfl) ?_
              refine ev_addn (ev_dt dt_Md_weigh_1 17 rfl) ?_
              refine rf_st18 (ev_dt dt_Md_weigh_1 18 rfl) hM9 (by omega) (fun h51 hM51 hf51 => ?_)
              replace hf51 := hf9.tr hf51
              refine ev_ic1 (ev_dt dt_Md_weigh_1 19 rfl) ?_
              refine ev_istore_2 (ev_dt dt_Md_weigh_1 20 rfl) (by decide) rfl ?_
              refine ev_inc1_5 (ev_dt dt_Md_weigh_1 21 rfl) (by decide) rfl ?_
              refine ev_goto (tgt := 67) (ev_dt dt_Md_weigh_1 22 rfl) (by decide) ?_
              refine ih (b + 1) _ _ (fun v => if v = b then l a + 1 else l v) true (by omega) (hA.said hA9).up hM51 hf51 (fun v hv => ?_) (wI_raise ho hI ha (by omega) g1' g2' g3' (decide_eq_true (nv.mp g4)))
              rw [uA_u]
              by_cases e : v = b
              · subst e; rw [pk_us]; simp
              · rw [pk_un e, hl9 v hv]; simp [e]
theorem r_weigh_mid {i q : Nat} {nc : Nat} {N : nod} {ed : Nat → Nat → Int32} {zs : Nat → Nat} {T : Nat → Bool} {cc : Nat} {cn co : Nat → Nat} {th : Nat → Int32} (hS : RS A nc N ed zs) (hnc : nc ≤ 24) (hC : RC A T 4 cc cn co th) (hF1 : F 1 ≤ 120) (hi : i < nc) (ho : okB (pR A T cc cn co th) (bN N (rV A) i) (F 1)) (h24 : cnt (pR A T cc cn co th) (F 1) ≤ 24) (kE : ∀ A' h' l mo a, vA A A' → Rf E m F A' h' → fR m h h' → lev A' (F 1) l → wI (pR A T cc cn co th) (bN N (rV A) i) (F 1) q a 0 l mo → F 1 ≤ a → Ev E m_Md_weigh (d + 4) 156 [some (.ref m), some (.int (nI i)), some (.int (b2 mo)), some (.int (nI q)), none, none] [] h' sz k n Q) : ∀ m' a A' h' l mo, a + m' = F 1 → vA A A' → Rf E m F A' h' → fR m h h' → lev A' (F 1) l → wI (pR A T cc cn co th) (bN N (rV A) i) (F 1) q a 0 l mo → Ev E m_Md_weigh (d + 4) 55 [some (.ref m), some (.int (nI i)), some (.int (b2 mo)), some (.int (nI q)), some (.int (nI a)), none] [] h' sz k n Q := by
    intro m'
    induction m' with
    | zero =>
      intro a A' h' l mo hj hA hM' hf' hl hI
      refine ev_iload_4 (ev_dt dt_Md_weigh_0 33 rfl) ?_
      refine ev_aload_0 (ev_dt dt_Md_weigh_0 34 rfl) ?_
      refine ev_get (v := .int (nI (F 1))) (ev_dt dt_Md_weigh_0 35 rfl) g_Md_99_10 hM'.1 rfl ?_
      refine ev_icmp_geT (tgt := 156) (ev_dt dt_Md_weigh_0 36 rfl) (by decide) (nI_le (by omega) (by omega)) ?_
      refine ev_fg_4 ?_
      exact kE A' h' l mo a hA hM' hf' hl hI (by omega)
    | succ m' ih =>
      intro a A' h' l mo hj hA hM' hf' hl hI
      refine ev_iload_4 (ev_dt dt_Md_weigh_0 33 rfl) ?_
      refine ev_aload_0 (ev_dt dt_Md_weigh_0 34 rfl) ?_
      refine ev_get (v := .int (nI (F 1))) (ev_dt dt_Md_weigh_0 35 rfl) g_Md_99_10 hM'.1 rfl ?_
      refine ev_icmp_geF (tgt := 156) (ev_dt dt_Md_weigh_0 36 rfl) (by decide) (nI_ge (by omega) (by omega)) ?_
      refine ev_ic0 (ev_dt dt_Md_weigh_0 37 rfl) ?_
      refine ev_istore_5 (ev_dt dt_Md_weigh_0 38 rfl) (by decide) rfl ?_
      refine r_weigh_in (h := h) hS hnc hC hF1 hi ho h24 (by omega) (fun A2 h2 l2 mo2 hA2 hM2 hf2 hl2 hI2 => ?_) (F 1) 0 A' h' l mo (by omega) hA hM' hf' hl hI
      refine ev_inc1_4 (ev_dt dt_Md_weigh_1 23 rfl) (by decide) rfl ?_
      refine ev_goto (tgt := 55) (ev_dt dt_Md_weigh_1 24 rfl) (by decide) ?_
      exact ih (a + 1) A2 h2 l2 mo2 (by omega) hA2 hM2 hf2 hl2 hI2
theorem r_weigh_out {i : Nat} {nc : Nat} {N : nod} {ed : Nat → Nat → Int32} {zs : Nat → Nat} {T : Nat → Bool} {cc : Nat} {cn co : Nat → Nat} {th : Nat → Int32} (hS : RS A nc N ed zs) (hnc : nc ≤ 24) (hC : RC A T 4 cc cn co th) (hF1 : F 1 ≤ 120) (hi : i < nc) (ho : okB (pR A T cc cn co th) (bN N (rV A) i) (F 1)) (h24 : cnt (pR A T cc cn co th) (F 1) ≤ 24) (kk : ∀ h' A', vA A A' → Rf E m F A' h' → fR m h h' → lev A' (F 1) (fun v => if pR A T cc cn co th v = true then lz (pR A T cc cn co th) (bN N (rV A) i) (F 1) v else 0) → Q (.returned none) h' sz k n) : ∀ m' q A' h' l mo, q + m' = 25 → vA A A' → Rf E m F A' h' → fR m h h' → lev A' (F 1) l → wW (pR A T cc cn co th) (bN N (rV A) i) (F 1) l → wK (pR A T cc cn co th) (bN N (rV A) i) (F 1) q l → (mo = false → ∀ v, v < F 1 → pR A T cc cn co th v = true → l v = lz (pR A T cc cn co th) (bN N (rV A) i) (F 1) v) → Ev E m_Md_weigh (d + 4) 40 [some (.ref m), some (.int (nI i)), some (.int (b2 mo)), some (.int (nI q)), none, none] [] h' sz k n Q := by
    intro m'
    induction m' with
    | zero =>
      intro q A' h' l mo hj hA hM' hf' hl hW hK hmo
      refine ev_iload_3 (ev_dt dt_Md_weigh_0 24 rfl) ?_
      refine ev_bipush (ev_dt dt_Md_weigh_0 25 rfl) bi_25 ?_
      refine ev_icmp_geT (tgt := 162) (ev_dt dt_Md_weigh_0 26 rfl) (by decide) (nI_le (by omega) (by omega)) ?_
      have hend := wK_end ho hW hK (by omega)
      exact ev_return (ev_dt dt_Md_weigh_1 27 rfl) rfl (kk h' A' hA hM' hf' (lev_of hl hend (fun v hv e => (hW v hv).1 e)))
    | succ m' ih =>
      intro q A' h' l mo hj hA hM' hf' hl hW hK hmo
      refine ev_iload_3 (ev_dt dt_Md_weigh_0 24 rfl) ?_
      refine ev_bipush (ev_dt dt_Md_weigh_0 25 rfl) bi_25 ?_
      refine ev_icmp_geF (tgt := 162) (ev_dt dt_Md_weigh_0 26 rfl) (by decide) (nI_ge (by omega) (by omega)) ?_
      refine ev_iload_2 (ev_dt dt_Md_weigh_0 27 rfl) ?_
      refine ev_if_eq (tgt := 162) (ev_dt dt_Md_weigh_0 28 rfl) (by decide) (fun g1 => ?_) (fun g1 => ?_)
      · have hend := hmo (b2_0.mp g1)
        exact ev_return (ev_dt dt_Md_weigh_1 27 rfl) rfl (kk h' A' hA hM' hf' (lev_of hl hend (fun v hv e => (hW v hv).1 e)))
      · refine ev_ic0 (ev_dt dt_Md_weigh_0 29 rfl) ?_
        refine ev_istore_2 (ev_dt dt_Md_weigh_0 30 rfl) (by decide) rfl ?_
        refine ev_ic0 (ev_dt dt_Md_weigh_0 31 rfl) ?_
        refine ev_istore_4 (ev_dt dt_Md_weigh_0 32 rfl) (by decide) rfl ?_
        refine r_weigh_mid (h := h) hS hnc hC hF1 hi ho h24 (fun A2 h2 l2 mo2 a hA2 hM2 hf2 hl2 hI2 ha => ?_) (F 1) 0 A' h' l false (by omega) hA hM' hf' hl (wI_0 hW hK)
        refine ev_inc1_3 (ev_dt dt_Md_weigh_1 25 rfl) (by decide) rfl ?_
        refine ev_goto (tgt := 40) (ev_dt dt_Md_weigh_1 26 rfl) (by decide) ?_
        exact ih (q + 1) A2 h2 l2 mo2 (by omega) hA2 hM2 hf2 hl2 hI2.1 (wK_next ho hI2 ha) (fun e => by subst e; exact wI_end ho hI2 ha)
theorem r_weigh {i : Nat} {nc : Nat} {N : nod} {ed : Nat → Nat → Int32} {zs : Nat → Nat} {T : Nat → Bool} {cc : Nat} {cn co : Nat → Nat} {th : Nat → Int32} (hM : Rf E m F A h) (hS : RS A nc N ed zs) (hnc : nc ≤ 24) (hC : RC A T 4 cc cn co th) (hF1 : F 1 ≤ 120) (hi : i < nc) (ho : okB (pR A T cc cn co th) (bN N (rV A) i) (F 1)) (h24 : cnt (pR A T cc cn co th) (F 1) ≤ 24) (kk : ∀ h' A', vA A A' → Rf E m F A' h' → fR m h h' → lev A' (F 1) (fun v => if pR A T cc cn co th v = true then lz (pR A T cc cn co th) (bN N (rV A) i) (F 1) v else 0) → Q (.returned none) h' sz k n) : Ev E m_Md_weigh (d + 4) 0 [some (.ref m), some (.int (nI i)), none, none, none, none] [] h sz k n Q := by
  have loop : ∀ m' r A' h', r + m' = F 1 → vA A A' → Rf E m F A' h' → fR m h h' → lev A' r (fun v => if pR A T cc cn co th v = true then 1 else 0) → Ev E m_Md_weigh (d + 4) 2 [some (.ref m), some (.int (nI i)), some (.int (nI r)), none, none, none] [] h' sz k n Q := by
    intro m'
    induction m' with
    | zero =>
      intro r A' h' hj hA hM' hf' hl
      refine ev_iload_2 (ev_dt dt_Md_weigh_0 2 rfl) ?_
      refine ev_aload_0 (ev_dt dt_Md_weigh_0 3 rfl) ?_
      refine ev_get (v := .int (nI (F 1))) (ev_dt dt_Md_weigh_0 4 rfl) g_Md_99_10 hM'.1 rfl ?_
      refine ev_icmp_geT (tgt := 36) (ev_dt dt_Md_weigh_0 5 rfl) (by decide) (nI_le (by omega) (by omega)) ?_
      refine ev_ic1 (ev_dt dt_Md_weigh_0 20 rfl) ?_
      refine ev_istore_2 (ev_dt dt_Md_weigh_0 21 rfl) (by decide) rfl ?_
      refine ev_ic0 (ev_dt dt_Md_weigh_0 22 rfl) ?_
      refine ev_istore_3 (ev_dt dt_Md_weigh_0 23 rfl) (by decide) rfl ?_
      exact r_weigh_out (h := h) hS hnc hC hF1 hi ho h24 kk 25 0 A' h' (fun v => if pR A T cc cn co th v = true then 1 else 0) true (by omega) hA hM' hf' (fun v hv => hl v (by omega)) (wW_1 ho) wK_1 (fun e => by cases e)
    | succ m' ih =>
      intro r A' h' hj hA hM' hf' hl
      refine ev_iload_2 (ev_dt dt_Md_weigh_0 2 rfl) ?_
      refine ev_aload_0 (ev_dt dt_Md_weigh_0 3 rfl) ?_
      refine ev_get (v := .int (nI (F 1))) (ev_dt dt_Md_weigh_0 4 rfl) g_Md_99_10 hM'.1 rfl ?_
      refine ev_icmp_geF (tgt := 36) (ev_dt dt_Md_weigh_0 5 rfl) (by decide) (nI_ge (by omega) (by omega)) ?_
      refine ev_aload_0 (ev_dt dt_Md_weigh_0 6 rfl) ?_
      refine ev_get (v := .ref (m + 19)) (ev_dt dt_Md_weigh_0 7 rfl) g_Md_65_10 hM'.1 rfl ?_
      refine ev_iload_2 (ev_dt dt_Md_weigh_0 8 rfl) ?_
      refine ev_aload_0 (ev_dt dt_Md_weigh_0 9 rfl) ?_
      refine ev_ic4 (ev_dt dt_Md_weigh_0 10 rfl) ?_
      refine ev_iload_2 (ev_dt dt_Md_weigh_0 11 rfl) ?_
      refine ev_callV (ev_dt dt_Md_weigh_0 12 rfl) v_Md_159_10 hM'.1 [.int (nI 4), .int (nI r)] rfl np_Md_passes rfl (ev_lk_of (j := 2) rfl rfl) (r_passes (d := d + 2) hM' (hC.keptV hA) (by omega) (ev_r1 ?_))
      rw [vA_pR hA]
      refine ev_if_eq (tgt := 28) (ev_dt dt_Md_weigh_0 13 rfl) (by decide) (fun g1 => ?_) (fun g1 => ?_)
      · refine ev_ic0 (ev_dt dt_Md_weigh_0 16 rfl) ?_
        refine rf_st18 (ev_dt dt_Md_weigh_0 17 rfl) hM' (by omega) (fun h51 hM51 hf51 => ?_)
        replace hf51 := hf'.tr hf51
        refine ev_inc1_2 (ev_dt dt_Md_weigh_0 18 rfl) (by decide) rfl ?_
        refine ev_goto (tgt := 2) (ev_dt dt_Md_weigh_0 19 rfl) (by decide) ?_
        refine ih (r + 1) _ _ (by omega) hA.up hM51 hf51 (fun v hv => ?_)
        rw [uA_u]
        by_cases e : v = r
        · subst e; rw [pk_us]; show _ = nI (if pR A T cc cn co th v = true then 1 else 0); rw [b2_0.mp g1]; rfl
        · rw [pk_un e]; exact hl v (by omega)
      · refine ev_ic1 (ev_dt dt_Md_weigh_0 14 rfl) ?_
        refine ev_goto (tgt := 29) (ev_dt dt_Md_weigh_0 15 rfl) (by decide) ?_
        refine rf_st18 (ev_dt dt_Md_weigh_0 17 rfl) hM' (by omega) (fun h52 hM52 hf52 => ?_)
        replace hf52 := hf'.tr hf52
        refine ev_inc1_2 (ev_dt dt_Md_weigh_0 18 rfl) (by decide) rfl ?_
        refine ev_goto (tgt := 2) (ev_dt dt_Md_weigh_0 19 rfl) (by decide) ?_
        refine ih (r + 1) _ _ (by omega) hA.up hM52 hf52 (fun v hv => ?_)
        rw [uA_u]
        by_cases e : v = r
        · subst e; rw [pk_us]; show _ = nI (if pR A T cc cn co th v = true then 1 else 0); rw [b2_1 g1]; rfl
        · rw [pk_un e]; exact hl v (by omega)
  refine ev_ic0 (ev_dt dt_Md_weigh_0 0 rfl) ?_
  refine ev_istore_2 (ev_dt dt_Md_weigh_0 1 rfl) (by decide) rfl ?_
  exact loop (F 1) 0 A h (by omega) vA.rf hM fR.rf (fun v hv => absurd hv (Nat.not_lt_zero _))
end R9
