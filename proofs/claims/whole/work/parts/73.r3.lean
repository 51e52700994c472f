/-! The reference's methods: order and term (written by gen_r3.py over walk.py). -/
/-- layers and edges of node i are new, up to value j -/
def oA (A A' : Nat → Nat → Int32) (i j : Nat) : Prop := (∀ a, a ≠ 7 → a ≠ 8 → A' a = A a) ∧ (∀ z, A' 7 z = if 10 * i ≤ z ∧ z < 10 * i + j then -1 else A 7 z) ∧ ∀ z, A' 8 z = if 10 * i ≤ z ∧ z < 10 * i + j then nI 0 else A 8 z
theorem oA_0 {A : Nat → Nat → Int32} {i : Nat} : oA A A i 0 := ⟨fun _ _ _ => rfl, fun z => by rw [if_neg (by omega)], fun z => by rw [if_neg (by omega)]⟩
theorem oA_s {A A' : Nat → Nat → Int32} {i j : Nat} (h : oA A A' i j) : oA A (uA (uA A' 7 (10 * i + j) (-1)) 8 (10 * i + j) (nI 0)) i (j + 1) := by
  refine ⟨fun a h7 h8 => ?_, fun z => ?_, fun z => ?_⟩
  · rw [uA_a h8, uA_a h7]; exact h.1 a h7 h8
  · rw [uA_a (by decide), uA_u]
    by_cases e : z = 10 * i + j
    · subst e; rw [pk_us, if_pos (by omega)]
    · rw [pk_un e, h.2.1 z]
      by_cases c : 10 * i ≤ z ∧ z < 10 * i + j
      · rw [if_pos c, if_pos (by omega)]
      · rw [if_neg c, if_neg (by omega)]
  · rw [uA_u, uA_a (by decide)]
    by_cases e : z = 10 * i + j
    · subst e; rw [pk_us, if_pos (by omega)]
    · rw [pk_un e, h.2.2 z]
      by_cases c : 10 * i ≤ z ∧ z < 10 * i + j
      · rw [if_pos c, if_pos (by omega)]
      · rw [if_neg c, if_neg (by omega)]
section R3
variable {E : ev_E} {d : Nat} {h : ev_h} {sz k n : Nat} {Q : ev_Q}
variable {m : Nat} {F : Nat → Nat} {A : Nat → Nat → Int32}
theorem r_order {x y a b : Int32} (hM : Rf E m F A h) (hF2 : F 2 ≤ 24) (k1 : (∀ kd, kd < 6 → x ≠ nI kd) ∨ (∀ cl, cl < 4 → y ≠ nI cl) ∨ (x = nI 3 ∧ b < a) → ∀ h', Rf E m (uF F 0 1) A h' → fR m h h' → Q (.returned (some (.int (nI 0)))) h' sz k n) (k2 : ∀ kd cl, kd < 6 → x = nI kd → cl < 4 → y = nI cl → ¬ (kd = 3 ∧ b < a) →  F 2 = 24 → ∀ h', Rf E m (uF F 0 2) A h' → fR m h h' → Q (.returned (some (.int (nI 0)))) h' sz k n) (kk : ∀ kd cl, kd < 6 → x = nI kd → cl < 4 → y = nI cl → ¬ (kd = 3 ∧ b < a) →  F 2 ≠ 24 → ∀ A', oA (uA (uA (uA (uA (uA A 2 (F 2) (nI kd)) 3 (F 2) (nI cl)) 4 (F 2) a) 5 (F 2) b) 6 (F 2) (nI 1)) A' (F 2) 10 → ∀ h', Rf E m (uF (uF F 0 0) 2 ((F 2) + 1)) A' h' → fR m h h' → Q (.returned (some (.int (nI (F 2))))) h' sz k n) : Ev E m_Md_order (d + 1) 0 [some (.ref m), some (.int x), some (.int y), some (.int a), some (.int b), none] [] h sz k n Q := by
  refine ev_aload_0 (ev_dt dt_Md_order_0 0 rfl) ?_
  refine ev_iload_1 (ev_dt dt_Md_order_0 1 rfl) ?_
  refine ev_if_lt (tgt := 28) (ev_dt dt_Md_order_0 2 rfl) (by decide) (fun g1 => ?_) (fun g1 => ?_)
  · refine ev_ic1 (ev_dt dt_Md_order_0 15 rfl) ?_
    refine ev_goto (tgt := 46) (ev_dt dt_Md_order_0 16 rfl) (by decide) ?_
    refine rf_pt0 (ev_dt dt_Md_order_0 24 rfl) rfl hM (fun h1 hM1 hf1 => ?_)
    refine ev_aload_0 (ev_dt dt_Md_order_0 25 rfl) ?_
    refine ev_get (v := .int (nI 1)) (ev_dt dt_Md_order_0 26 rfl) g_Md_95_10 hM1.1 rfl ?_
    refine ev_if_leF (tgt := 58) (ev_dt dt_Md_order_0 27 rfl) (by decide) (by decide +kernel) ?_
    refine ev_ic0 (ev_dt dt_Md_order_0 28 rfl) ?_
    exact ev_ireturn (ev_dt dt_Md_order_0 29 rfl) rfl rfl (k1 (Or.inl (nI_nb (by decide) (Or.inl g1))) h1 hM1 hf1)
  · refine ev_iload_1 (ev_dt dt_Md_order_0 3 rfl) ?_
    refine ev_ic5 (ev_dt dt_Md_order_0 4 rfl) ?_
    refine ev_icmp_gt (tgt := 28) (ev_dt dt_Md_order_0 5 rfl) (by decide) (fun g2 => ?_) (fun g2 => ?_)
    · refine ev_ic1 (ev_dt dt_Md_order_0 15 rfl) ?_
      refine ev_goto (tgt := 46) (ev_dt dt_Md_order_0 16 rfl) (by decide) ?_
      refine rf_pt0 (ev_dt dt_Md_order_0 24 rfl) rfl hM (fun h2 hM2 hf2 => ?_)
      refine ev_aload_0 (ev_dt dt_Md_order_0 25 rfl) ?_
      refine ev_get (v := .int (nI 1)) (ev_dt dt_Md_order_0 26 rfl) g_Md_95_10 hM2.1 rfl ?_
      refine ev_if_leF (tgt := 58) (ev_dt dt_Md_order_0 27 rfl) (by decide) (by decide +kernel) ?_
      refine ev_ic0 (ev_dt dt_Md_order_0 28 rfl) ?_
      exact ev_ireturn (ev_dt dt_Md_order_0 29 rfl) rfl rfl (k1 (Or.inl (nI_nb (by decide) (Or.inr (nI_5gt g2)))) h2 hM2 hf2)
    · obtain ⟨kd, hkd, rfl⟩ := nI_bd (x := x) (c := 6) (by decide) g1 (fun e => g2 (Int32.lt_of_lt_of_le (by decide +kernel) e))
      refine ev_iload_2 (ev_dt dt_Md_order_0 6 rfl) ?_
      refine ev_callS (ev_dt dt_Md_order_0 7 rfl) s_Md_113 [.int y] rfl np_Md_isColumn rfl (ev_lk_of (j := 0) rfl rfl) (r_isColumn (fun hcol => ev_r1 ?_) (fun hcol => ev_r1 ?_))
      · obtain ⟨cl, hcl, rfl⟩ := hcol
        refine ev_if_eqF (tgt := 28) (ev_dt dt_Md_order_0 8 rfl) (by decide) z10 ?_
        refine ev_iload_1 (ev_dt dt_Md_order_0 9 rfl) ?_
        refine ev_ic3 (ev_dt dt_Md_order_0 10 rfl) ?_
        refine ev_icmp_ne (tgt := 32) (ev_dt dt_Md_order_0 11 rfl) (by decide) (fun g3 => ?_) (fun g3 => ?_)
        · have hbt : ¬ (kd = 3 ∧ b < a) := fun e => g3 (by rw [e.1])
          refine ev_aload_0 (ev_dt dt_Md_order_0 17 rfl) ?_
          refine ev_get (v := .int (nI (F 2))) (ev_dt dt_Md_order_0 18 rfl) g_Md_102_10 hM.1 rfl ?_
          refine ev_bipush (ev_dt dt_Md_order_0 19 rfl) bi_24 ?_
          refine ev_icmp_ne (tgt := 45) (ev_dt dt_Md_order_0 20 rfl) (by decide) (fun g5 => ?_) (fun g5 => ?_)
          · have g24 : F 2 ≠ 24 := fun e => g5 (by rw [e])
            refine ev_ic0 (ev_dt dt_Md_order_0 23 rfl) ?_
            refine rf_pt0 (ev_dt dt_Md_order_0 24 rfl) rfl hM (fun h3 hM3 hf3 => ?_)
            refine ev_aload_0 (ev_dt dt_Md_order_0 25 rfl) ?_
            refine ev_get (v := .int (nI 0)) (ev_dt dt_Md_order_0 26 rfl) g_Md_95_10 hM3.1 rfl ?_
            refine ev_if_leT (tgt := 58) (ev_dt dt_Md_order_0 27 rfl) (by decide) (by decide +kernel) ?_
            refine ev_aload_0 (ev_dt dt_Md_order_0 30 rfl) ?_
            refine ev_get (v := .ref (m + 3)) (ev_dt dt_Md_order_0 31 rfl) g_Md_17_10 hM3.1 rfl ?_
            refine ev_aload_0 (ev_dt dt_Md_order_0 32 rfl) ?_
            refine ev_get (v := .int (nI (F 2))) (ev_dt dt_Md_order_0 33 rfl) g_Md_102_10 hM3.1 rfl ?_
            refine ev_iload_1 (ev_dt dt_Md_order_0 34 rfl) ?_
            refine rf_st2 (ev_dt dt_Md_order_0 35 rfl) hM3 (by omega) (fun h4 hM4 hf4 => ?_)
            replace hf4 := hf3.tr hf4
            refine ev_aload_0 (ev_dt dt_Md_order_0 36 rfl) ?_
            refine ev_get (v := .ref (m + 4)) (ev_dt dt_Md_order_0 37 rfl) g_Md_20_10 hM4.1 rfl ?_
            refine ev_aload_0 (ev_dt dt_Md_order_0 38 rfl) ?_
            refine ev_get (v := .int (nI (F 2))) (ev_dt dt_Md_order_0 39 rfl) g_Md_102_10 hM4.1 rfl ?_
            refine ev_iload_2 (ev_dt dt_Md_order_0 40 rfl) ?_
            refine rf_st3 (ev_dt dt_Md_order_0 41 rfl) hM4 (by omega) (fun h5 hM5 hf5 => ?_)
            replace hf5 := hf4.tr hf5
            refine ev_aload_0 (ev_dt dt_Md_order_0 42 rfl) ?_
            refine ev_get (v := .ref (m + 5)) (ev_dt dt_Md_order_0 43 rfl) g_Md_23_10 hM5.1 rfl ?_
            refine ev_aload_0 (ev_dt dt_Md_order_0 44 rfl) ?_
            refine ev_get (v := .int (nI (F 2))) (ev_dt dt_Md_order_0 45 rfl) g_Md_102_10 hM5.1 rfl ?_
            refine ev_iload_3 (ev_dt dt_Md_order_0 46 rfl) ?_
            refine rf_st4 (ev_dt dt_Md_order_0 47 rfl) hM5 (by omega) (fun h6 hM6 hf6 => ?_)
            replace hf6 := hf5.tr hf6
            refine ev_aload_0 (ev_dt dt_Md_order_0 48 rfl) ?_
            refine ev_get (v := .ref (m + 6)) (ev_dt dt_Md_order_0 49 rfl) g_Md_26_10 hM6.1 rfl ?_
            refine ev_aload_0 (ev_dt dt_Md_order_0 50 rfl) ?_
            refine ev_get (v := .int (nI (F 2))) (ev_dt dt_Md_order_0 51 rfl) g_Md_102_10 hM6.1 rfl ?_
            refine ev_iload_4 (ev_dt dt_Md_order_0 52 rfl) ?_
            refine rf_st5 (ev_dt dt_Md_order_0 53 rfl) hM6 (by omega) (fun h7 hM7 hf7 => ?_)
            replace hf7 := hf6.tr hf7
            refine ev_aload_0 (ev_dt dt_Md_order_0 54 rfl) ?_
            refine ev_get (v := .ref (m + 7)) (ev_dt dt_Md_order_0 55 rfl) g_Md_29_10 hM7.1 rfl ?_
            refine ev_aload_0 (ev_dt dt_Md_order_0 56 rfl) ?_
            refine ev_get (v := .int (nI (F 2))) (ev_dt dt_Md_order_0 57 rfl) g_Md_102_10 hM7.1 rfl ?_
            refine ev_ic1 (ev_dt dt_Md_order_0 58 rfl) ?_
            refine rf_st6 (ev_dt dt_Md_order_0 59 rfl) hM7 (by omega) (fun h8 hM8 hf8 => ?_)
            replace hf8 := hf7.tr hf8
            refine ev_ic0 (ev_dt dt_Md_order_1 0 rfl) ?_
            refine ev_istore_5 (ev_dt dt_Md_order_1 1 rfl) (by decide) rfl ?_
            have loop : ∀ m' j A' h', j + m' = 10 → Rf E m (uF F 0 0) A' h' → fR m h h' → oA (uA (uA (uA (uA (uA A 2 (F 2) (nI kd)) 3 (F 2) (nI cl)) 4 (F 2) a) 5 (F 2) b) 6 (F 2) (nI 1)) A' (F 2) j → Ev E m_Md_order (d + 1) 112 [some (.ref m), some (.int (nI kd)), some (.int (nI cl)), some (.int a), some (.int b), some (.int (nI j))] [] h' sz k n Q := by
              intro m'
              induction m' with
              | zero =>
                intro j A' h' hj hM' hf' hO
                refine ev_iload_5 (ev_dt dt_Md_order_1 2 rfl) ?_
                refine ev_bipush (ev_dt dt_Md_order_1 3 rfl) bi_10 ?_
                refine ev_icmp_geT (tgt := 157) (ev_dt dt_Md_order_1 4 rfl) (by decide) (nI_le (by omega) (by omega)) ?_
                refine ev_aload_0 (ev_dt dt_Md_order_1 27 rfl) ?_
                refine ev_dup (ev_dt dt_Md_order_1 28 rfl) rfl ?_
                refine ev_get (v := .int (nI (F 2))) (ev_dt dt_Md_order_1 29 rfl) g_Md_102_10 hM'.1 rfl ?_
                refine ev_ic1 (ev_dt dt_Md_order_1 30 rfl) ?_
                refine ev_addn (ev_dt dt_Md_order_1 31 rfl) ?_
                refine rf_pt2 (ev_dt dt_Md_order_1 32 rfl) rfl hM' (fun h51 hM51 hf51 => ?_)
                replace hf51 := hf'.tr hf51
                refine ev_aload_0 (ev_dt dt_Md_order_1 33 rfl) ?_
                refine ev_get (v := .int (nI ((F 2) + 1))) (ev_dt dt_Md_order_1 34 rfl) g_Md_102_10 hM51.1 rfl ?_
                refine ev_ic1 (ev_dt dt_Md_order_1 35 rfl) ?_
                refine ev_isub (ev_dt dt_Md_order_1 36 rfl) (nI_sub1 _) ?_
                obtain rfl : j = 10 := by omega
                exact ev_ireturn (ev_dt dt_Md_order_1 37 rfl) rfl rfl (kk kd cl hkd rfl hcl rfl hbt g24 A' hO h51 hM51 hf51)
              | succ m' ih =>
                intro j A' h' hj hM' hf' hO
                refine ev_iload_5 (ev_dt dt_Md_order_1 2 rfl) ?_
                refine ev_bipush (ev_dt dt_Md_order_1 3 rfl) bi_10 ?_
                refine ev_icmp_geF (tgt := 157) (ev_dt dt_Md_order_1 4 rfl) (by decide) (nI_ge (by omega) (by omega)) ?_
                refine ev_aload_0 (ev_dt dt_Md_order_1 5 rfl) ?_
                refine ev_get (v := .ref (m + 8)) (ev_dt dt_Md_order_1 6 rfl) g_Md_32_10 hM'.1 rfl ?_
                refine ev_bipush (ev_dt dt_Md_order_1 7 rfl) bi_10 ?_
                refine ev_aload_0 (ev_dt dt_Md_order_1 8 rfl) ?_
                refine ev_get (v := .int (nI (F 2))) (ev_dt dt_Md_order_1 9 rfl) g_Md_102_10 hM'.1 rfl ?_
                refine ev_imul (ev_dt dt_Md_order_1 10 rfl) (nI_mul _ _) ?_
                refine ev_iload_5 (ev_dt dt_Md_order_1 11 rfl) ?_
                refine ev_addn (ev_dt dt_Md_order_1 12 rfl) ?_
                refine ev_icm (ev_dt dt_Md_order_1 13 rfl) ?_
                refine rf_st7 (ev_dt dt_Md_order_1 14 rfl) hM' (by omega) (fun h52 hM52 hf52 => ?_)
                replace hf52 := hf'.tr hf52
                refine ev_aload_0 (ev_dt dt_Md_order_1 15 rfl) ?_
                refine ev_get (v := .ref (m + 9)) (ev_dt dt_Md_order_1 16 rfl) g_Md_35_10 hM52.1 rfl ?_
                refine ev_bipush (ev_dt dt_Md_order_1 17 rfl) bi_10 ?_
                refine ev_aload_0 (ev_dt dt_Md_order_1 18 rfl) ?_
                refine ev_get (v := .int (nI (F 2))) (ev_dt dt_Md_order_1 19 rfl) g_Md_102_10 hM52.1 rfl ?_
                refine ev_imul (ev_dt dt_Md_order_1 20 rfl) (nI_mul _ _) ?_
                refine ev_iload_5 (ev_dt dt_Md_order_1 21 rfl) ?_
                refine ev_addn (ev_dt dt_Md_order_1 22 rfl) ?_
                refine ev_ic0 (ev_dt dt_Md_order_1 23 rfl) ?_
                refine rf_st8 (ev_dt dt_Md_order_1 24 rfl) hM52 (by omega) (fun h53 hM53 hf53 => ?_)
                replace hf53 := hf52.tr hf53
                refine ev_inc1_5 (ev_dt dt_Md_order_1 25 rfl) (by decide) rfl ?_
                refine ev_goto (tgt := 112) (ev_dt dt_Md_order_1 26 rfl) (by decide) ?_
                exact ih (j + 1) _ _ (by omega) hM53 hf53 (oA_s hO)
            exact loop 10 0 _ _ (by omega) hM8 hf8 oA_0
          · refine ev_ic2 (ev_dt dt_Md_order_0 21 rfl) ?_
            refine ev_goto (tgt := 46) (ev_dt dt_Md_order_0 22 rfl) (by decide) ?_
            refine rf_pt0 (ev_dt dt_Md_order_0 24 rfl) rfl hM (fun h9 hM9 hf9 => ?_)
            refine ev_aload_0 (ev_dt dt_Md_order_0 25 rfl) ?_
            refine ev_get (v := .int (nI 2)) (ev_dt dt_Md_order_0 26 rfl) g_Md_95_10 hM9.1 rfl ?_
            refine ev_if_leF (tgt := 58) (ev_dt dt_Md_order_0 27 rfl) (by decide) (by decide +kernel) ?_
            refine ev_ic0 (ev_dt dt_Md_order_0 28 rfl) ?_
            exact ev_ireturn (ev_dt dt_Md_order_0 29 rfl) rfl rfl (k2 kd cl hkd rfl hcl rfl hbt ((nI_eq (by omega) (by omega)).mp g5) h9 hM9 hf9)
        · refine ev_iload_3 (ev_dt dt_Md_order_0 12 rfl) ?_
          refine ev_iload_4 (ev_dt dt_Md_order_0 13 rfl) ?_
          refine ev_icmp_le (tgt := 32) (ev_dt dt_Md_order_0 14 rfl) (by decide) (fun g4 => ?_) (fun g4 => ?_)
          · have hbt : ¬ (kd = 3 ∧ b < a) := fun e => absurd g4 (Int32.not_le.mpr e.2)
            refine ev_aload_0 (ev_dt dt_Md_order_0 17 rfl) ?_
            refine ev_get (v := .int (nI (F 2))) (ev_dt dt_Md_order_0 18 rfl) g_Md_102_10 hM.1 rfl ?_
            refine ev_bipush (ev_dt dt_Md_order_0 19 rfl) bi_24 ?_
            refine ev_icmp_ne (tgt := 45) (ev_dt dt_Md_order_0 20 rfl) (by decide) (fun g5 => ?_) (fun g5 => ?_)
            · have g24 : F 2 ≠ 24 := fun e => g5 (by rw [e])
              refine ev_ic0 (ev_dt dt_Md_order_0 23 rfl) ?_
              refine rf_pt0 (ev_dt dt_Md_order_0 24 rfl) rfl hM (fun h10 hM10 hf10 => ?_)
              refine ev_aload_0 (ev_dt dt_Md_order_0 25 rfl) ?_
              refine ev_get (v := .int (nI 0)) (ev_dt dt_Md_order_0 26 rfl) g_Md_95_10 hM10.1 rfl ?_
              refine ev_if_leT (tgt := 58) (ev_dt dt_Md_order_0 27 rfl) (by decide) (by decide +kernel) ?_
              refine ev_aload_0 (ev_dt dt_Md_order_0 30 rfl) ?_
              refine ev_get (v := .ref (m + 3)) (ev_dt dt_Md_order_0 31 rfl) g_Md_17_10 hM10.1 rfl ?_
              refine ev_aload_0 (ev_dt dt_Md_order_0 32 rfl) ?_
              refine ev_get (v := .int (nI (F 2))) (ev_dt dt_Md_order_0 33 rfl) g_Md_102_10 hM10.1 rfl ?_
              refine ev_iload_1 (ev_dt dt_Md_order_0 34 rfl) ?_
              refine rf_st2 (ev_dt dt_Md_order_0 35 rfl) hM10 (by omega) (fun h11 hM11 hf11 => ?_)
              replace hf11 := hf10.tr hf11
              refine ev_aload_0 (ev_dt dt_Md_order_0 36 rfl) ?_
              refine ev_get (v := .ref (m + 4)) (ev_dt dt_Md_order_0 37 rfl) g_Md_20_10 hM11.1 rfl ?_
              refine ev_aload_0 (ev_dt dt_Md_order_0 38 rfl) ?_
              refine ev_get (v := .int (nI (F 2))) (ev_dt dt_Md_order_0 39 rfl) g_Md_102_10 hM11.1 rfl ?_
              refine ev_iload_2 (ev_dt dt_Md_order_0 40 rfl) ?_
              refine rf_st3 (ev_dt dt_Md_order_0 41 rfl) hM11 (by omega) (fun h12 hM12 hf12 => ?_)
              replace hf12 := hf11.tr hf12
              refine ev_aload_0 (ev_dt dt_Md_order_0 42 rfl) ?_
              refine ev_get (v := .ref (m + 5)) (ev_dt dt_Md_order_0 43 rfl) g_Md_23_10 hM12.1 rfl ?_
              refine ev_aload_0 (ev_dt dt_Md_order_0 44 rfl) ?_
              refine ev_get (v := .int (nI (F 2))) (ev_dt dt_Md_order_0 45 rfl) g_Md_102_10 hM12.1 rfl ?_
              refine ev_iload_3 (ev_dt dt_Md_order_0 46 rfl) ?_
              refine rf_st4 (ev_dt dt_Md_order_0 47 rfl) hM12 (by omega) (fun h13 hM13 hf13 => ?_)
              replace hf13 := hf12.tr hf13
              refine ev_aload_0 (ev_dt dt_Md_order_0 48 rfl) ?_
              refine ev_get (v := .ref (m + 6)) (ev_dt dt_Md_order_0 49 rfl) g_Md_26_10 hM13.1 rfl ?_
              refine ev_aload_0 (ev_dt dt_Md_order_0 50 rfl) ?_
              refine ev_get (v := .int (nI (F 2))) (ev_dt dt_Md_order_0 51 rfl) g_Md_102_10 hM13.1 rfl ?_
              refine ev_iload_4 (ev_dt dt_Md_order_0 52 rfl) ?_
              refine rf_st5 (ev_dt dt_Md_order_0 53 rfl) hM13 (by omega) (fun h14 hM14 hf14 => ?_)
              replace hf14 := hf13.tr hf14
              refine ev_aload_0 (ev_dt dt_Md_order_0 54 rfl) ?_
              refine ev_get (v := .ref (m + 7)) (ev_dt dt_Md_order_0 55 rfl) g_Md_29_10 hM14.1 rfl ?_
              refine ev_aload_0 (ev_dt dt_Md_order_0 56 rfl) ?_
              refine ev_get (v := .int (nI (F 2))) (ev_dt dt_Md_order_0 57 rfl) g_Md_102_10 hM14.1 rfl ?_
              refine ev_ic1 (ev_dt dt_Md_order_0 58 rfl) ?_
              refine rf_st6 (ev_dt dt_Md_order_0 59 rfl) hM14 (by omega) (fun h15 hM15 hf15 => ?_)
              replace hf15 := hf14.tr hf15
              refine ev_ic0 (ev_dt dt_Md_order_1 0 rfl) ?_
              refine ev_istore_5 (ev_dt dt_Md_order_1 1 rfl) (by decide) rfl ?_
              have loop : ∀ m' j A' h', j + m' = 10 → Rf E m (uF F 0 0) A' h' → fR m h h' → oA (uA (uA (uA (uA (uA A 2 (F 2) (nI kd)) 3 (F 2) (nI cl)) 4 (F 2) a) 5 (F 2) b) 6 (F 2) (nI 1)) A' (F 2) j → Ev E m_Md_order (d + 1) 112 [some (.ref m), some (.int (nI kd)), some (.int (nI cl)), some (.int a), some (.int b), some (.int (nI j))] [] h' sz k n Q := by
                intro m'
                induction m' with
                | zero =>
                  intro j A' h' hj hM' hf' hO
                  refine ev_iload_5 (ev_dt dt_Md_order_1 2 rfl) ?_
                  refine ev_bipush (ev_dt dt_Md_order_1 3 rfl) bi_10 ?_
                  refine ev_icmp_geT (tgt := 157) (ev_dt dt_Md_order_1 4 rfl) (by decide) (nI_le (by omega) (by omega)) ?_
                  refine ev_aload_0 (ev_dt dt_Md_order_1 27 rfl) ?_
                  refine ev_dup (ev_dt dt_Md_order_1 28 rfl) rfl ?_
                  refine ev_get (v := .int (nI (F 2))) (ev_dt dt_Md_order_1 29 rfl) g_Md_102_10 hM'.1 rfl ?_
                  refine ev_ic1 (ev_dt dt_Md_order_1 30 rfl) ?_
                  refine ev_addn (ev_dt dt_Md_order_1 31 rfl) ?_
                  refine rf_pt2 (ev_dt dt_Md_order_1 32 rfl) rfl hM' (fun h51 hM51 hf51 => ?_)
                  replace hf51 := hf'.tr hf51
                  refine ev_aload_0 (ev_dt dt_Md_order_1 33 rfl) ?_
                  refine ev_get (v := .int (nI ((F 2) + 1))) (ev_dt dt_Md_order_1 34 rfl) g_Md_102_10 hM51.1 rfl ?_
                  refine ev_ic1 (ev_dt dt_Md_order_1 35 rfl) ?_
                  refine ev_isub (ev_dt dt_Md_order_1 36 rfl) (nI_sub1 _) ?_
                  obtain rfl : j = 10 := by omega
                  exact ev_ireturn (ev_dt dt_Md_order_1 37 rfl) rfl rfl (kk kd cl hkd rfl hcl rfl hbt g24 A' hO h51 hM51 hf51)
                | succ m' ih =>
                  intro j A' h' hj hM' hf' hO
                  refine ev_iload_5 (ev_dt dt_Md_order_1 2 rfl) ?_
                  refine ev_bipush (ev_dt dt_Md_order_1 3 rfl) bi_10 ?_
                  refine ev_icmp_geF (tgt := 157) (ev_dt dt_Md_order_1 4 rfl) (by decide) (nI_ge (by omega) (by omega)) ?_
                  refine ev_aload_0 (ev_dt dt_Md_order_1 5 rfl) ?_
                  refine ev_get (v := .ref (m + 8)) (ev_dt dt_Md_order_1 6 rfl) g_Md_32_10 hM'.1 rfl ?_
                  refine ev_bipush (ev_dt dt_Md_order_1 7 rfl) bi_10 ?_
                  refine ev_aload_0 (ev_dt dt_Md_order_1 8 rfl) ?_
                  refine ev_get (v := .int (nI (F 2))) (ev_dt dt_Md_order_1 9 rfl) g_Md_102_10 hM'.1 rfl ?_
                  refine ev_imul (ev_dt dt_Md_order_1 10 rfl) (nI_mul _ _) ?_
                  refine ev_iload_5 (ev_dt dt_Md_order_1 11 rfl) ?_
                  refine ev_addn (ev_dt dt_Md_order_1 12 rfl) ?_
                  refine ev_icm (ev_dt dt_Md_order_1 13 rfl) ?_
                  refine rf_st7 (ev_dt dt_Md_order_1 14 rfl) hM' (by omega) (fun h52 hM52 hf52 => ?_)
                  replace hf52 := hf'.tr hf52
                  refine ev_aload_0 (ev_dt dt_Md_order_1 15 rfl) ?_
                  refine ev_get (v := .ref (m + 9)) (ev_dt dt_Md_order_1 16 rfl) g_Md_35_10 hM52.1 rfl ?_
                  refine ev_bipush (ev_dt dt_Md_order_1 17 rfl) bi_10 ?_
                  refine ev_aload_0 (ev_dt dt_Md_order_1 18 rfl) ?_
                  refine ev_get (v := .int (nI (F 2))) (ev_dt dt_Md_order_1 19 rfl) g_Md_102_10 hM52.1 rfl ?_
                  refine ev_imul (ev_dt dt_Md_order_1 20 rfl) (nI_mul _ _) ?_
                  refine ev_iload_5 (ev_dt dt_Md_order_1 21 rfl) ?_
                  refine ev_addn (ev_dt dt_Md_order_1 22 rfl) ?_
                  refine ev_ic0 (ev_dt dt_Md_order_1 23 rfl) ?_
                  refine rf_st8 (ev_dt dt_Md_order_1 24 rfl) hM52 (by omega) (fun h53 hM53 hf53 => ?_)
                  replace hf53 := hf52.tr hf53
                  refine ev_inc1_5 (ev_dt dt_Md_order_1 25 rfl) (by decide) rfl ?_
                  refine ev_goto (tgt := 112) (ev_dt dt_Md_order_1 26 rfl) (by decide) ?_
                  exact ih (j + 1) _ _ (by omega) hM53 hf53 (oA_s hO)
              exact loop 10 0 _ _ (by omega) hM15 hf15 oA_0
            · refine ev_ic2 (ev_dt dt_Md_order_0 21 rfl) ?_
              refine ev_goto (tgt := 46) (ev_dt dt_Md_order_0 22 rfl) (by decide) ?_
              refine rf_pt0 (ev_dt dt_Md_order_0 24 rfl) rfl hM (fun h16 hM16 hf16 => ?_)
              refine ev_aload_0 (ev_dt dt_Md_order_0 25 rfl) ?_
              refine ev_get (v := .int (nI 2)) (ev_dt dt_Md_order_0 26 rfl) g_Md_95_10 hM16.1 rfl ?_
              refine ev_if_leF (tgt := 58) (ev_dt dt_Md_order_0 27 rfl) (by decide) (by decide +kernel) ?_
              refine ev_ic0 (ev_dt dt_Md_order_0 28 rfl) ?_
              exact ev_ireturn (ev_dt dt_Md_order_0 29 rfl) rfl rfl (k2 kd cl hkd rfl hcl rfl hbt ((nI_eq (by omega) (by omega)).mp g5) h16 hM16 hf16)
          · refine ev_ic1 (ev_dt dt_Md_order_0 15 rfl) ?_
            refine ev_goto (tgt := 46) (ev_dt dt_Md_order_0 16 rfl) (by decide) ?_
            refine rf_pt0 (ev_dt dt_Md_order_0 24 rfl) rfl hM (fun h17 hM17 hf17 => ?_)
            refine ev_aload_0 (ev_dt dt_Md_order_0 25 rfl) ?_
            refine ev_get (v := .int (nI 1)) (ev_dt dt_Md_order_0 26 rfl) g_Md_95_10 hM17.1 rfl ?_
            refine ev_if_leF (tgt := 58) (ev_dt dt_Md_order_0 27 rfl) (by decide) (by decide +kernel) ?_
            refine ev_ic0 (ev_dt dt_Md_order_0 28 rfl) ?_
            exact ev_ireturn (ev_dt dt_Md_order_0 29 rfl) rfl rfl (k1 (Or.inr (Or.inr ⟨g3, Int32.not_le.mp g4⟩)) h17 hM17 hf17)
      · refine ev_if_eqT (tgt := 28) (ev_dt dt_Md_order_0 8 rfl) (by decide) z00 ?_
        refine ev_ic1 (ev_dt dt_Md_order_0 15 rfl) ?_
        refine ev_goto (tgt := 46) (ev_dt dt_Md_order_0 16 rfl) (by decide) ?_
        refine rf_pt0 (ev_dt dt_Md_order_0 24 rfl) rfl hM (fun h18 hM18 hf18 => ?_)
        refine ev_aload_0 (ev_dt dt_Md_order_0 25 rfl) ?_
        refine ev_get (v := .int (nI 1)) (ev_dt dt_Md_order_0 26 rfl) g_Md_95_10 hM18.1 rfl ?_
        refine ev_if_leF (tgt := 58) (ev_dt dt_Md_order_0 27 rfl) (by decide) (by decide +kernel) ?_
        refine ev_ic0 (ev_dt dt_Md_order_0 28 rfl) ?_
        exact ev_ireturn (ev_dt dt_Md_order_0 29 rfl) rfl rfl (k1 (Or.inr (Or.inl hcol)) h18 hM18 hf18)
theorem r_term {x y z : Int32} {N : nod} {ed : Nat → Nat → Int32} {zs : Nat → Nat} (hM : Rf E m F A h) (hN : RN A (F 2) N ed zs) (hF2 : F 2 ≤ 24) (k1 : (∀ kd, 6 ≤ kd → kd ≤ 9 → x ≠ nI kd) ∨ (∀ i, i < F 2 → y ≠ nI i) ∨ (x ≠ nI 9 ∧ ∀ i, i < F 2 → z ≠ nI i) → ∀ h', Rf E m (uF F 0 1) A h' → fR m h h' → Q (.returned (some (.int (nI 0)))) h' sz k n) (k2 : ∀ kd i j, 6 ≤ kd → kd ≤ 9 → x = nI kd → i < F 2 → y = nI i → (kd = 9 ∧ j = i) ∨ (kd ≠ 9 ∧ j < F 2 ∧ z = nI j) →  F 2 = 24 ∨ 40 < (if kd = 9 then 1 + zs i else 1 + zs i + zs j) → ∀ h', Rf E m (uF F 0 2) A h' → fR m h h' → Q (.returned (some (.int (nI 0)))) h' sz k n) (kk : ∀ kd i j, 6 ≤ kd → kd ≤ 9 → x = nI kd → i < F 2 → y = nI i → (kd = 9 ∧ j = i) ∨ (kd ≠ 9 ∧ j < F 2 ∧ z = nI j) →  F 2 ≠ 24 → (if kd = 9 then 1 + zs i else 1 + zs i + zs j) ≤ 40 → ∀ h', Rf E m (uF (uF F 0 0) 2 ((F 2) + 1)) (uA (uA (uA (uA A 2 (F 2) (nI kd)) 4 (F 2) (nI i)) 5 (F 2) (nI j)) 6 (F 2) (nI (if kd = 9 then 1 + zs i else 1 + zs i + zs j))) h' → fR m h h' → Q (.returned (some (.int (nI (F 2))))) h' sz k n) : Ev E m_Md_term (d + 1) 0 [some (.ref m), some (.int x), some (.int y), some (.int z), none] [] h sz k n Q := by
  refine ev_aload_0 (ev_dt dt_Md_term_0 0 rfl) ?_
  refine ev_iload_1 (ev_dt dt_Md_term_0 1 rfl) ?_
  refine ev_bipush (ev_dt dt_Md_term_0 2 rfl) bi_6 ?_
  refine ev_icmp_lt (tgt := 35) (ev_dt dt_Md_term_0 3 rfl) (by decide) (fun g1 => ?_) (fun g1 => ?_)
  · refine ev_ic1 (ev_dt dt_Md_term_0 18 rfl) ?_
    refine ev_goto (tgt := 53) (ev_dt dt_Md_term_0 19 rfl) (by decide) ?_
    refine rf_pt0 (ev_dt dt_Md_term_0 27 rfl) rfl hM (fun h1 hM1 hf1 => ?_)
    refine ev_aload_0 (ev_dt dt_Md_term_0 28 rfl) ?_
    refine ev_get (v := .int (nI 1)) (ev_dt dt_Md_term_0 29 rfl) g_Md_95_10 hM1.1 rfl ?_
    refine ev_if_leF (tgt := 65) (ev_dt dt_Md_term_0 30 rfl) (by decide) (by decide +kernel) ?_
    refine ev_ic0 (ev_dt dt_Md_term_0 31 rfl) ?_
    exact ev_ireturn (ev_dt dt_Md_term_0 32 rfl) rfl rfl (k1 (Or.inl (fun kd a b e => by subst e; rw [nI_ltI (by omega) (by omega)] at g1; omega)) h1 hM1 hf1)
  · refine ev_iload_1 (ev_dt dt_Md_term_0 4 rfl) ?_
    refine ev_bipush (ev_dt dt_Md_term_0 5 rfl) bi_9 ?_
    refine ev_icmp_gt (tgt := 35) (ev_dt dt_Md_term_0 6 rfl) (by decide) (fun g2 => ?_) (fun g2 => ?_)
    · refine ev_ic1 (ev_dt dt_Md_term_0 18 rfl) ?_
      refine ev_goto (tgt := 53) (ev_dt dt_Md_term_0 19 rfl) (by decide) ?_
      refine rf_pt0 (ev_dt dt_Md_term_0 27 rfl) rfl hM (fun h2 hM2 hf2 => ?_)
      refine ev_aload_0 (ev_dt dt_Md_term_0 28 rfl) ?_
      refine ev_get (v := .int (nI 1)) (ev_dt dt_Md_term_0 29 rfl) g_Md_95_10 hM2.1 rfl ?_
      refine ev_if_leF (tgt := 65) (ev_dt dt_Md_term_0 30 rfl) (by decide) (by decide +kernel) ?_
      refine ev_ic0 (ev_dt dt_Md_term_0 31 rfl) ?_
      exact ev_ireturn (ev_dt dt_Md_term_0 32 rfl) rfl rfl (k1 (Or.inl (fun kd a b e => by subst e; rw [nI_ltI (by omega) (by omega)] at g2; omega)) h2 hM2 hf2)
    · obtain ⟨kd, hk6, hk9, rfl⟩ : ∃ kd, 6 ≤ kd ∧ kd ≤ 9 ∧ x = nI kd := nI_69 g1 g2
      refine ev_aload_0 (ev_dt dt_Md_term_0 7 rfl) ?_
      refine ev_iload_2 (ev_dt dt_Md_term_0 8 rfl) ?_
      refine ev_callV (ev_dt dt_Md_term_0 9 rfl) v_Md_116_10 hM.1 [.int y] rfl np_Md_isNode rfl (ev_lk_of (j := 0) rfl rfl) (r_isNode hM (show F 2 ≤ 24 by omega) (fun (hx : ∃ j, j < F 2 ∧ y = nI j) => ev_r1 ?_) (fun (hx : ∀ j, j < F 2 → y ≠ nI j) => ev_r1 ?_))
      · obtain ⟨i, h_i, rfl⟩ := hx
        obtain ⟨-, -, -, -, -, hzi, hz40, -, -⟩ := hN i h_i
        refine ev_if_eqF (tgt := 35) (ev_dt dt_Md_term_0 10 rfl) (by decide) z10 ?_
        refine ev_iload_1 (ev_dt dt_Md_term_0 11 rfl) ?_
        refine ev_bipush (ev_dt dt_Md_term_0 12 rfl) bi_9 ?_
        refine ev_icmp_ge (tgt := 39) (ev_dt dt_Md_term_0 13 rfl) (by decide) (fun g3 => ?_) (fun g3 => ?_)
        · have hd9 : kd = 9 := by rw [nI_leI (by omega) (by omega)] at g3; omega
          refine ev_aload_0 (ev_dt dt_Md_term_0 20 rfl) ?_
          refine ev_get (v := .int (nI (F 2))) (ev_dt dt_Md_term_0 21 rfl) g_Md_102_10 hM.1 rfl ?_
          refine ev_bipush (ev_dt dt_Md_term_0 22 rfl) bi_24 ?_
          refine ev_icmp_ne (tgt := 52) (ev_dt dt_Md_term_0 23 rfl) (by decide) (fun g5 => ?_) (fun g5 => ?_)
          · have g24 : F 2 ≠ 24 := fun e => g5 (by rw [e])
            refine ev_ic0 (ev_dt dt_Md_term_0 26 rfl) ?_
            refine rf_pt0 (ev_dt dt_Md_term_0 27 rfl) rfl hM (fun h3 hM3 hf3 => ?_)
            refine ev_aload_0 (ev_dt dt_Md_term_0 28 rfl) ?_
            refine ev_get (v := .int (nI 0)) (ev_dt dt_Md_term_0 29 rfl) g_Md_95_10 hM3.1 rfl ?_
            refine ev_if_leT (tgt := 65) (ev_dt dt_Md_term_0 30 rfl) (by decide) (by decide +kernel) ?_
            refine ev_ic1 (ev_dt dt_Md_term_0 33 rfl) ?_
            refine ev_aload_0 (ev_dt dt_Md_term_0 34 rfl) ?_
            refine ev_get (v := .ref (m + 7)) (ev_dt dt_Md_term_0 35 rfl) g_Md_29_10 hM3.1 rfl ?_
            refine ev_iload_2 (ev_dt dt_Md_term_0 36 rfl) ?_
            refine ev_iald (f := A 6) (ev_dt dt_Md_term_0 37 rfl) hM3.a6 (by omega) (by decide) rfl ?_
            rw [hzi]
            refine ev_addn (ev_dt dt_Md_term_0 38 rfl) ?_
            refine ev_iload_1 (ev_dt dt_Md_term_0 39 rfl) ?_
            refine ev_bipush (ev_dt dt_Md_term_0 40 rfl) bi_9 ?_
            refine ev_icmp_geT (tgt := 98) (ev_dt dt_Md_term_0 41 rfl) (by decide) g3 ?_
            refine ev_ic0 (ev_dt dt_Md_term_0 52 rfl) ?_
            refine ev_addn (ev_dt dt_Md_term_0 53 rfl) ?_
            refine ev_istore_4 (ev_dt dt_Md_term_0 54 rfl) (by decide) rfl ?_
            have hsz : 1 + zs i + 0 = (if kd = 9 then 1 + zs i else 1 + zs i + zs i) := by rw [if_pos hd9]; omega
            rw [hsz]
            have hsl : (if kd = 9 then 1 + zs i else 1 + zs i + zs i) ≤ 81 := by split <;> omega
            refine ev_aload_0 (ev_dt dt_Md_term_0 55 rfl) ?_
            refine ev_iload_4 (ev_dt dt_Md_term_0 56 rfl) ?_
            refine ev_bipush (ev_dt dt_Md_term_0 57 rfl) bi_40 ?_
            refine ev_icmp_le (tgt := 114) (ev_dt dt_Md_term_0 58 rfl) (by decide) (fun g6 => ?_) (fun g6 => ?_)
            · have h40 : (if kd = 9 then 1 + zs i else 1 + zs i + zs i) ≤ 40 := (nI_leI (by omega) (by omega)).mp g6
              refine ev_ic0 (ev_dt dt_Md_term_1 1 rfl) ?_
              refine rf_pt0 (ev_dt dt_Md_term_1 2 rfl) rfl hM3 (fun h4 hM4 hf4 => ?_)
              replace hf4 := hf3.tr hf4
              rw [uF_uF] at hM4
              refine ev_aload_0 (ev_dt dt_Md_term_1 3 rfl) ?_
              refine ev_get (v := .int (nI 0)) (ev_dt dt_Md_term_1 4 rfl) g_Md_95_10 hM4.1 rfl ?_
              refine ev_if_leT (tgt := 127) (ev_dt dt_Md_term_1 5 rfl) (by decide) (by decide +kernel) ?_
              refine ev_aload_0 (ev_dt dt_Md_term_1 8 rfl) ?_
              refine ev_get (v := .ref (m + 3)) (ev_dt dt_Md_term_1 9 rfl) g_Md_17_10 hM4.1 rfl ?_
              refine ev_aload_0 (ev_dt dt_Md_term_1 10 rfl) ?_
              refine ev_get (v := .int (nI (F 2))) (ev_dt dt_Md_term_1 11 rfl) g_Md_102_10 hM4.1 rfl ?_
              refine ev_iload_1 (ev_dt dt_Md_term_1 12 rfl) ?_
              refine rf_st2 (ev_dt dt_Md_term_1 13 rfl) hM4 (by omega) (fun h5 hM5 hf5 => ?_)
              replace hf5 := hf4.tr hf5
              refine ev_aload_0 (ev_dt dt_Md_term_1 14 rfl) ?_
              refine ev_get (v := .ref (m + 5)) (ev_dt dt_Md_term_1 15 rfl) g_Md_23_10 hM5.1 rfl ?_
              refine ev_aload_0 (ev_dt dt_Md_term_1 16 rfl) ?_
              refine ev_get (v := .int (nI (F 2))) (ev_dt dt_Md_term_1 17 rfl) g_Md_102_10 hM5.1 rfl ?_
              refine ev_iload_2 (ev_dt dt_Md_term_1 18 rfl) ?_
              refine rf_st4 (ev_dt dt_Md_term_1 19 rfl) hM5 (by omega) (fun h6 hM6 hf6 => ?_)
              replace hf6 := hf5.tr hf6
              refine ev_aload_0 (ev_dt dt_Md_term_1 20 rfl) ?_
              refine ev_get (v := .ref (m + 6)) (ev_dt dt_Md_term_1 21 rfl) g_Md_26_10 hM6.1 rfl ?_
              refine ev_aload_0 (ev_dt dt_Md_term_1 22 rfl) ?_
              refine ev_get (v := .int (nI (F 2))) (ev_dt dt_Md_term_1 23 rfl) g_Md_102_10 hM6.1 rfl ?_
              refine ev_iload_1 (ev_dt dt_Md_term_1 24 rfl) ?_
              refine ev_bipush (ev_dt dt_Md_term_1 25 rfl) bi_9 ?_
              refine ev_icmp_geT (tgt := 165) (ev_dt dt_Md_term_1 26 rfl) (by decide) g3 ?_
              refine ev_iload_2 (ev_dt dt_Md_term_1 29 rfl) ?_
              refine rf_st5 (ev_dt dt_Md_term_1 30 rfl) hM6 (by omega) (fun h7 hM7 hf7 => ?_)
              replace hf7 := hf6.tr hf7
              refine ev_aload_0 (ev_dt dt_Md_term_1 31 rfl) ?_
              refine ev_get (v := .ref (m + 7)) (ev_dt dt_Md_term_1 32 rfl) g_Md_29_10 hM7.1 rfl ?_
              refine ev_aload_0 (ev_dt dt_Md_term_1 33 rfl) ?_
              refine ev_get (v := .int (nI (F 2))) (ev_dt dt_Md_term_1 34 rfl) g_Md_102_10 hM7.1 rfl ?_
              refine ev_iload_4 (ev_dt dt_Md_term_1 35 rfl) ?_
              refine rf_st6 (ev_dt dt_Md_term_1 36 rfl) hM7 (by omega) (fun h8 hM8 hf8 => ?_)
              replace hf8 := hf7.tr hf8
              refine ev_aload_0 (ev_dt dt_Md_term_1 37 rfl) ?_
              refine ev_dup (ev_dt dt_Md_term_1 38 rfl) rfl ?_
              refine ev_get (v := .int (nI (F 2))) (ev_dt dt_Md_term_1 39 rfl) g_Md_102_10 hM8.1 rfl ?_
              refine ev_ic1 (ev_dt dt_Md_term_1 40 rfl) ?_
              refine ev_addn (ev_dt dt_Md_term_1 41 rfl) ?_
              refine rf_pt2 (ev_dt dt_Md_term_1 42 rfl) rfl hM8 (fun h9 hM9 hf9 => ?_)
              replace hf9 := hf8.tr hf9
              refine ev_aload_0 (ev_dt dt_Md_term_1 43 rfl) ?_
              refine ev_get (v := .int (nI ((F 2) + 1))) (ev_dt dt_Md_term_1 44 rfl) g_Md_102_10 hM9.1 rfl ?_
              refine ev_ic1 (ev_dt dt_Md_term_1 45 rfl) ?_
              refine ev_isub (ev_dt dt_Md_term_1 46 rfl) (nI_sub1 _) ?_
              exact ev_ireturn (ev_dt dt_Md_term_1 47 rfl) rfl rfl (kk kd i i hk6 hk9 rfl h_i rfl (Or.inl ⟨hd9, rfl⟩) g24 h40 h9 hM9 hf9)
            · refine ev_ic2 (ev_dt dt_Md_term_0 59 rfl) ?_
              refine ev_goto (tgt := 115) (ev_dt dt_Md_term_1 0 rfl) (by decide) ?_
              refine rf_pt0 (ev_dt dt_Md_term_1 2 rfl) rfl hM3 (fun h10 hM10 hf10 => ?_)
              replace hf10 := hf3.tr hf10
              rw [uF_uF] at hM10
              refine ev_aload_0 (ev_dt dt_Md_term_1 3 rfl) ?_
              refine ev_get (v := .int (nI 2)) (ev_dt dt_Md_term_1 4 rfl) g_Md_95_10 hM10.1 rfl ?_
              refine ev_if_leF (tgt := 127) (ev_dt dt_Md_term_1 5 rfl) (by decide) (by decide +kernel) ?_
              refine ev_ic0 (ev_dt dt_Md_term_1 6 rfl) ?_
              exact ev_ireturn (ev_dt dt_Md_term_1 7 rfl) rfl rfl (k2 kd i i hk6 hk9 rfl h_i rfl (Or.inl ⟨hd9, rfl⟩) (Or.inr (Nat.lt_of_not_le (fun e => g6 (nI_le e (by omega))))) h10 hM10 hf10)
          · refine ev_ic2 (ev_dt dt_Md_term_0 24 rfl) ?_
            refine ev_goto (tgt := 53) (ev_dt dt_Md_term_0 25 rfl) (by decide) ?_
            refine rf_pt0 (ev_dt dt_Md_term_0 27 rfl) rfl hM (fun h11 hM11 hf11 => ?_)
            refine ev_aload_0 (ev_dt dt_Md_term_0 28 rfl) ?_
            refine ev_get (v := .int (nI 2)) (ev_dt dt_Md_term_0 29 rfl) g_Md_95_10 hM11.1 rfl ?_
            refine ev_if_leF (tgt := 65) (ev_dt dt_Md_term_0 30 rfl) (by decide) (by decide +kernel) ?_
            refine ev_ic0 (ev_dt dt_Md_term_0 31 rfl) ?_
            exact ev_ireturn (ev_dt dt_Md_term_0 32 rfl) rfl rfl (k2 kd i i hk6 hk9 rfl h_i rfl (Or.inl ⟨hd9, rfl⟩) (Or.inl ((nI_eq (by omega) (by omega)).mp g5)) h11 hM11 hf11)
        · have hd9 : kd ≠ 9 := fun e => g3 (by rw [e]; exact Int32.le_refl _)
          refine ev_aload_0 (ev_dt dt_Md_term_0 14 rfl) ?_
          refine ev_iload_3 (ev_dt dt_Md_term_0 15 rfl) ?_
          refine ev_callV (ev_dt dt_Md_term_0 16 rfl) v_Md_116_10 hM.1 [.int z] rfl np_Md_isNode rfl (ev_lk_of (j := 0) rfl rfl) (r_isNode hM (show F 2 ≤ 24 by omega) (fun (hx : ∃ j, j < F 2 ∧ z = nI j) => ev_r1 ?_) (fun (hx : ∀ j, j < F 2 → z ≠ nI j) => ev_r1 ?_))
          · obtain ⟨j, h_j, rfl⟩ := hx
            obtain ⟨-, -, -, -, -, hzj, hzj40, -, -⟩ := hN j h_j
            refine ev_if_neT (tgt := 39) (ev_dt dt_Md_term_0 17 rfl) (by decide) z10 ?_
            refine ev_aload_0 (ev_dt dt_Md_term_0 20 rfl) ?_
            refine ev_get (v := .int (nI (F 2))) (ev_dt dt_Md_term_0 21 rfl) g_Md_102_10 hM.1 rfl ?_
            refine ev_bipush (ev_dt dt_Md_term_0 22 rfl) bi_24 ?_
            refine ev_icmp_ne (tgt := 52) (ev_dt dt_Md_term_0 23 rfl) (by decide) (fun g5 => ?_) (fun g5 => ?_)
            · have g24 : F 2 ≠ 24 := fun e => g5 (by rw [e])
              refine ev_ic0 (ev_dt dt_Md_term_0 26 rfl) ?_
              refine rf_pt0 (ev_dt dt_Md_term_0 27 rfl) rfl hM (fun h12 hM12 hf12 => ?_)
              refine ev_aload_0 (ev_dt dt_Md_term_0 28 rfl) ?_
              refine ev_get (v := .int (nI 0)) (ev_dt dt_Md_term_0 29 rfl) g_Md_95_10 hM12.1 rfl ?_
              refine ev_if_leT (tgt := 65) (ev_dt dt_Md_term_0 30 rfl) (by decide) (by decide +kernel) ?_
              refine ev_ic1 (ev_dt dt_Md_term_0 33 rfl) ?_
              refine ev_aload_0 (ev_dt dt_Md_term_0 34 rfl) ?_
              refine ev_get (v := .ref (m + 7)) (ev_dt dt_Md_term_0 35 rfl) g_Md_29_10 hM12.1 rfl ?_
              refine ev_iload_2 (ev_dt dt_Md_term_0 36 rfl) ?_
              refine ev_iald (f := A 6) (ev_dt dt_Md_term_0 37 rfl) hM12.a6 (by omega) (by decide) rfl ?_
              rw [hzi]
              refine ev_addn (ev_dt dt_Md_term_0 38 rfl) ?_
              refine ev_iload_1 (ev_dt dt_Md_term_0 39 rfl) ?_
              refine ev_bipush (ev_dt dt_Md_term_0 40 rfl) bi_9 ?_
              refine ev_icmp_geF (tgt := 98) (ev_dt dt_Md_term_0 41 rfl) (by decide) g3 ?_
              refine ev_aload_0 (ev_dt dt_Md_term_0 42 rfl) ?_
              refine ev_get (v := .ref (m + 7)) (ev_dt dt_Md_term_0 43 rfl) g_Md_29_10 hM12.1 rfl ?_
              refine ev_iload_1 (ev_dt dt_Md_term_0 44 rfl) ?_
              refine ev_bipush (ev_dt dt_Md_term_0 45 rfl) bi_9 ?_
              refine ev_icmp_geF (tgt := 93) (ev_dt dt_Md_term_0 46 rfl) (by decide) g3 ?_
              refine ev_iload_3 (ev_dt dt_Md_term_0 47 rfl) ?_
              refine ev_goto (tgt := 94) (ev_dt dt_Md_term_0 48 rfl) (by decide) ?_
              refine ev_iald (f := A 6) (ev_dt dt_Md_term_0 50 rfl) hM12.a6 (by omega) (by decide) rfl ?_
              rw [hzj]
              refine ev_goto (tgt := 99) (ev_dt dt_Md_term_0 51 rfl) (by decide) ?_
              refine ev_addn (ev_dt dt_Md_term_0 53 rfl) ?_
              refine ev_istore_4 (ev_dt dt_Md_term_0 54 rfl) (by decide) rfl ?_
              have hsz : 1 + zs i + zs j = (if kd = 9 then 1 + zs i else 1 + zs i + zs j) := by rw [if_neg hd9]
              rw [hsz]
              have hsl : (if kd = 9 then 1 + zs i else 1 + zs i + zs j) ≤ 81 := by split <;> omega
              refine ev_aload_0 (ev_dt dt_Md_term_0 55 rfl) ?_
              refine ev_iload_4 (ev_dt dt_Md_term_0 56 rfl) ?_
              refine ev_bipush (ev_dt dt_Md_term_0 57 rfl) bi_40 ?_
              refine ev_icmp_le (tgt := 114) (ev_dt dt_Md_term_0 58 rfl) (by decide) (fun g6 => ?_) (fun g6 => ?_)
              · have h40 : (if kd = 9 then 1 + zs i else 1 + zs i + zs j) ≤ 40 := (nI_leI (by omega) (by omega)).mp g6
                refine ev_ic0 (ev_dt dt_Md_term_1 1 rfl) ?_
                refine rf_pt0 (ev_dt dt_Md_term_1 2 rfl) rfl hM12 (fun h13 hM13 hf13 => ?_)
                replace hf13 := hf12.tr hf13
                rw [uF_uF] at hM13
                refine ev_aload_0 (ev_dt dt_Md_term_1 3 rfl) ?_
                refine ev_get (v := .int (nI 0)) (ev_dt dt_Md_term_1 4 rfl) g_Md_95_10 hM13.1 rfl ?_
                refine ev_if_leT (tgt := 127) (ev_dt dt_Md_term_1 5 rfl) (by decide) (by decide +kernel) ?_
                refine ev_aload_0 (ev_dt dt_Md_term_1 8 rfl) ?_
                refine ev_get (v := .ref (m + 3)) (ev_dt dt_Md_term_1 9 rfl) g_Md_17_10 hM13.1 rfl ?_
                refine ev_aload_0 (ev_dt dt_Md_term_1 10 rfl) ?_
                refine ev_get (v := .int (nI (F 2))) (ev_dt dt_Md_term_1 11 rfl) g_Md_102_10 hM13.1 rfl ?_
                refine ev_iload_1 (ev_dt dt_Md_term_1 12 rfl) ?_
                refine rf_st2 (ev_dt dt_Md_term_1 13 rfl) hM13 (by omega) (fun h14 hM14 hf14 => ?_)
                replace hf14 := hf13.tr hf14
                refine ev_aload_0 (ev_dt dt_Md_term_1 14 rfl) ?_
                refine ev_get (v := .ref (m + 5)) (ev_dt dt_Md_term_1 15 rfl) g_Md_23_10 hM14.1 rfl ?_
                refine ev_aload_0 (ev_dt dt_Md_term_1 16 rfl) ?_
                refine ev_get (v := .int (nI (F 2))) (ev_dt dt_Md_term_1 17 rfl) g_Md_102_10 hM14.1 rfl ?_
                refine ev_iload_2 (ev_dt dt_Md_term_1 18 rfl) ?_
                refine rf_st4 (ev_dt dt_Md_term_1 19 rfl) hM14 (by omega) (fun h15 hM15 hf15 => ?_)
                replace hf15 := hf14.tr hf15
                refine ev_aload_0 (ev_dt dt_Md_term_1 20 rfl) ?_
                refine ev_get (v := .ref (m + 6)) (ev_dt dt_Md_term_1 21 rfl) g_Md_26_10 hM15.1 rfl ?_
                refine ev_aload_0 (ev_dt dt_Md_term_1 22 rfl) ?_
                refine ev_get (v := .int (nI (F 2))) (ev_dt dt_Md_term_1 23 rfl) g_Md_102_10 hM15.1 rfl ?_
                refine ev_iload_1 (ev_dt dt_Md_term_1 24 rfl) ?_
                refine ev_bipush (ev_dt dt_Md_term_1 25 rfl) bi_9 ?_
                refine ev_icmp_geF (tgt := 165) (ev_dt dt_Md_term_1 26 rfl) (by decide) g3 ?_
                refine ev_iload_3 (ev_dt dt_Md_term_1 27 rfl) ?_
                refine ev_goto (tgt := 166) (ev_dt dt_Md_term_1 28 rfl) (by decide) ?_
                refine rf_st5 (ev_dt dt_Md_term_1 30 rfl) hM15 (by omega) (fun h16 hM16 hf16 => ?_)
                replace hf16 := hf15.tr hf16
                refine ev_aload_0 (ev_dt dt_Md_term_1 31 rfl) ?_
                refine ev_get (v := .ref (m + 7)) (ev_dt dt_Md_term_1 32 rfl) g_Md_29_10 hM16.1 rfl ?_
                refine ev_aload_0 (ev_dt dt_Md_term_1 33 rfl) ?_
                refine ev_get (v := .int (nI (F 2))) (ev_dt dt_Md_term_1 34 rfl) g_Md_102_10 hM16.1 rfl ?_
                refine ev_iload_4 (ev_dt dt_Md_term_1 35 rfl) ?_
                refine rf_st6 (ev_dt dt_Md_term_1 36 rfl) hM16 (by omega) (fun h17 hM17 hf17 => ?_)
                replace hf17 := hf16.tr hf17
                refine ev_aload_0 (ev_dt dt_Md_term_1 37 rfl) ?_
                refine ev_dup (ev_dt dt_Md_term_1 38 rfl) rfl ?_
                refine ev_get (v := .int (nI (F 2))) (ev_dt dt_Md_term_1 39 rfl) g_Md_102_10 hM17.1 rfl ?_
                refine ev_ic1 (ev_dt dt_Md_term_1 40 rfl) ?_
                refine ev_addn (ev_dt dt_Md_term_1 41 rfl) ?_
                refine rf_pt2 (ev_dt dt_Md_term_1 42 rfl) rfl hM17 (fun h18 hM18 hf18 => ?_)
                replace hf18 := hf17.tr hf18
                refine ev_aload_0 (ev_dt dt_Md_term_1 43 rfl) ?_
                refine ev_get (v := .int (nI ((F 2) + 1))) (ev_dt dt_Md_term_1 44 rfl) g_Md_102_10 hM18.1 rfl ?_
                refine ev_ic1 (ev_dt dt_Md_term_1 45 rfl) ?_
                refine ev_isub (ev_dt dt_Md_term_1 46 rfl) (nI_sub1 _) ?_
                exact ev_ireturn (ev_dt dt_Md_term_1 47 rfl) rfl rfl (kk kd i j hk6 hk9 rfl h_i rfl (Or.inr ⟨hd9, h_j, rfl⟩) g24 h40 h18 hM18 hf18)
              · refine ev_ic2 (ev_dt dt_Md_term_0 59 rfl) ?_
                refine ev_goto (tgt := 115) (ev_dt dt_Md_term_1 0 rfl) (by decide) ?_
                refine rf_pt0 (ev_dt dt_Md_term_1 2 rfl) rfl hM12 (fun h19 hM19 hf19 => ?_)
                replace hf19 := hf12.tr hf19
                rw [uF_uF] at hM19
                refine ev_aload_0 (ev_dt dt_Md_term_1 3 rfl) ?_
                refine ev_get (v := .int (nI 2)) (ev_dt dt_Md_term_1 4 rfl) g_Md_95_10 hM19.1 rfl ?_
                refine ev_if_leF (tgt := 127) (ev_dt dt_Md_term_1 5 rfl) (by decide) (by decide +kernel) ?_
                refine ev_ic0 (ev_dt dt_Md_term_1 6 rfl) ?_
                exact ev_ireturn (ev_dt dt_Md_term_1 7 rfl) rfl rfl (k2 kd i j hk6 hk9 rfl h_i rfl (Or.inr ⟨hd9, h_j, rfl⟩) (Or.inr (Nat.lt_of_not_le (fun e => g6 (nI_le e (by omega))))) h19 hM19 hf19)
            · refine ev_ic2 (ev_dt dt_Md_term_0 24 rfl) ?_
              refine ev_goto (tgt := 53) (ev_dt dt_Md_term_0 25 rfl) (by decide) ?_
              refine rf_pt0 (ev_dt dt_Md_term_0 27 rfl) rfl hM (fun h20 hM20 hf20 => ?_)
              refine ev_aload_0 (ev_dt dt_Md_term_0 28 rfl) ?_
              refine ev_get (v := .int (nI 2)) (ev_dt dt_Md_term_0 29 rfl) g_Md_95_10 hM20.1 rfl ?_
              refine ev_if_leF (tgt := 65) (ev_dt dt_Md_term_0 30 rfl) (by decide) (by decide +kernel) ?_
              refine ev_ic0 (ev_dt dt_Md_term_0 31 rfl) ?_
              exact ev_ireturn (ev_dt dt_Md_term_0 32 rfl) rfl rfl (k2 kd i j hk6 hk9 rfl h_i rfl (Or.inr ⟨hd9, h_j, rfl⟩) (Or.inl ((nI_eq (by omega) (by omega)).mp g5)) h20 hM20 hf20)
          · refine ev_if_neF (tgt := 39) (ev_dt dt_Md_term_0 17 rfl) (by decide) z00 ?_
            refine ev_ic1 (ev_dt dt_Md_term_0 18 rfl) ?_
            refine ev_goto (tgt := 53) (ev_dt dt_Md_term_0 19 rfl) (by decide) ?_
            refine rf_pt0 (ev_dt dt_Md_term_0 27 rfl) rfl hM (fun h21 hM21 hf21 => ?_)
            refine ev_aload_0 (ev_dt dt_Md_term_0 28 rfl) ?_
            refine ev_get (v := .int (nI 1)) (ev_dt dt_Md_term_0 29 rfl) g_Md_95_10 hM21.1 rfl ?_
            refine ev_if_leF (tgt := 65) (ev_dt dt_Md_term_0 30 rfl) (by decide) (by decide +kernel) ?_
            refine ev_ic0 (ev_dt dt_Md_term_0 31 rfl) ?_
            exact ev_ireturn (ev_dt dt_Md_term_0 32 rfl) rfl rfl (k1 (Or.inr (Or.inr ⟨fun e => g3 (by rw [e]; exact Int32.le_refl _), hx⟩)) h21 hM21 hf21)
      · refine ev_if_eqT (tgt := 35) (ev_dt dt_Md_term_0 10 rfl) (by decide) z00 ?_
        refine ev_ic1 (ev_dt dt_Md_term_0 18 rfl) ?_
        refine ev_goto (tgt := 53) (ev_dt dt_Md_term_0 19 rfl) (by decide) ?_
        refine rf_pt0 (ev_dt dt_Md_term_0 27 rfl) rfl hM (fun h22 hM22 hf22 => ?_)
        refine ev_aload_0 (ev_dt dt_Md_term_0 28 rfl) ?_
        refine ev_get (v := .int (nI 1)) (ev_dt dt_Md_term_0 29 rfl) g_Md_95_10 hM22.1 rfl ?_
        refine ev_if_leF (tgt := 65) (ev_dt dt_Md_term_0 30 rfl) (by decide) (by decide +kernel) ?_
        refine ev_ic0 (ev_dt dt_Md_term_0 31 rfl) ?_
        exact ev_ireturn (ev_dt dt_Md_term_0 32 rfl) rfl rfl (k1 (Or.inr (Or.inl hx)) h22 hM22 hf22)
end R3
