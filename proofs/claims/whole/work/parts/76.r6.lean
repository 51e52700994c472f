/-! What passes in the reference, and what is best (written by gen_r6.py over walk.py). -/
/-- the first j conditions hold -/
def okb (cn co : Nat → Nat) (th U : Nat → Int32) : Nat → Bool
  | 0 => true
  | j + 1 => okb cn co th U j && hld (co j) (U (cn j)) (th j)
theorem okb_iff {cn co : Nat → Nat} {th U : Nat → Int32} : ∀ c, okb cn co th U c = true ↔ okC c cn co th U
  | 0 => ⟨fun _ i hi => absurd hi (Nat.not_lt_zero _), fun _ => rfl⟩
  | c + 1 => by
    simp only [okb]
    rw [Bool.and_eq_true, okb_iff c]
    constructor
    · rintro ⟨h1, h2⟩ i hi
      by_cases e : i = c
      · subst e; exact h2
      · exact h1 i (by omega)
    · intro h
      exact ⟨fun i hi => h i (by omega), h c (by omega)⟩
/-- what is wanted of rows and conditions: T what is there; question s (4: none): cc conditions -/
def RC (A : Nat → Nat → Int32) (T : Nat → Bool) (s cc : Nat) (cn co : Nat → Nat) (th : Nat → Int32) : Prop := (∀ r, r < 120 → A 0 r = b2 (T r)) ∧ s ≤ 4 ∧ A 10 s = nI cc ∧ cc ≤ 4 ∧ ∀ i, i < cc → A 11 (4 * s + i) = nI (cn i) ∧ cn i < 4 ∧ A 12 (4 * s + i) = nI (co i) ∧ co i < 6 ∧ A 13 (4 * s + i) = th i
/-- only what is said and what is best has changed -/
def mA (A A' : Nat → Nat → Int32) : Prop := ∀ a, a ≠ 9 → a ≠ 17 → A' a = A a
/-- row r passes -/
def pR (A : Nat → Nat → Int32) (T : Nat → Bool) (cc : Nat) (cn co : Nat → Nat) (th : Nat → Int32) (r : Nat) : Bool := T r && okb cn co th (rV A r) cc
theorem RC.kept {A A' : Nat → Nat → Int32} {T : Nat → Bool} {s cc : Nat} {cn co : Nat → Nat} {th : Nat → Int32} (h : RC A T s cc cn co th) (hA : mA A A') : RC A' T s cc cn co th := by
  unfold RC
  rw [hA 0 (by decide) (by decide), hA 10 (by decide) (by decide), hA 11 (by decide) (by decide), hA 12 (by decide) (by decide), hA 13 (by decide) (by decide)]
  exact h
theorem mA_rV {A A' : Nat → Nat → Int32} (hA : mA A A') (r : Nat) : rV A' r = rV A r := by unfold rV; rw [hA 1 (by decide) (by decide)]
theorem mA_pR {A A' : Nat → Nat → Int32} {T : Nat → Bool} {cc : Nat} {cn co : Nat → Nat} {th : Nat → Int32} (hA : mA A A') (r : Nat) : pR A' T cc cn co th r = pR A T cc cn co th r := by
  unfold pR
  rw [mA_rV hA]
theorem RS.kept {A A' : Nat → Nat → Int32} {nc : Nat} {N : nod} {ed : Nat → Nat → Int32} {zs : Nat → Nat} (hS : RS A nc N ed zs) (h : mA A A') : RS A' nc N ed zs := by
  refine ⟨fun i hi => ?_, hS.2⟩
  rw [h 2 (by decide) (by decide), h 3 (by decide) (by decide), h 4 (by decide) (by decide), h 5 (by decide) (by decide), h 6 (by decide) (by decide), h 7 (by decide) (by decide), h 8 (by decide) (by decide)]
  exact hS.1 i hi
theorem mA.rf {A : Nat → Nat → Int32} : mA A A := fun _ _ _ => rfl
theorem mA.said {A A' A'' : Nat → Nat → Int32} (h : mA A A') (h2 : sA A' A'') : mA A A'' := fun a h9 h17 => (h2 a h9).trans (h a h9 h17)
theorem mA.up {A A' : Nat → Nat → Int32} {i : Nat} {x : Int32} (h : mA A A') : mA A (uA A' 17 i x) := fun a h9 h17 => by rw [uA_a h17]; exact h a h9 h17
/-- v is unbeaten by the first j rows -/
def ubr (P : Nat → Bool) (B : Nat → Nat → Bool) (v : Nat) : Nat → Bool
  | 0 => P v
  | j + 1 => ubr P B v j && !(P j && B j v)
theorem ubr_false {P : Nat → Bool} {B : Nat → Nat → Bool} {v j : Nat} (h : ubr P B v j = false) : ∀ n, ubr P B v (j + n) = false
  | 0 => h
  | n + 1 => by
    show (ubr P B v (j + n) && _) = false
    rw [ubr_false h n, Bool.false_and]
theorem ubr_ub {P : Nat → Bool} {B : Nat → Nat → Bool} {v : Nat} : ∀ j, ubr P B v j = ub j P B v
  | 0 => by
    unfold ub
    rw [decide_eq_true (p := ∀ y, y < 0 → P y = true → B y v = false) (fun y hy => absurd hy (Nat.not_lt_zero _)), Bool.and_true]
    rfl
  | j + 1 => by
    rw [ubr, ubr_ub j]
    unfold ub
    rw [Bool.and_assoc]
    congr 1
    rw [Bool.eq_iff_iff]
    simp only [Bool.and_eq_true, decide_eq_true_eq, Bool.not_eq_true', Bool.and_eq_false_iff]
    constructor
    · rintro ⟨h1, h2⟩ y hy hp
      by_cases e : y = j
      · subst e
        rcases h2 with h2 | h2
        · rw [hp] at h2; cases h2
        · exact h2
      · exact h1 y (by omega) hp
    · intro h
      refine ⟨fun y hy hp => h y (by omega) hp, ?_⟩
      cases hp : P j with
      | false => exact Or.inl rfl
      | true => exact Or.inr (h j (by omega) hp)
theorem b2_1 {b : Bool} (h : ¬ b2 b = 0) : b = true := by cases b with | true => rfl | false => exact absurd nI_0 h
section R6
variable {E : ev_E} {d : Nat} {h : ev_h} {sz k n : Nat} {Q : ev_Q}
variable {m : Nat} {F : Nat → Nat} {A : Nat → Nat → Int32}
theorem r_holds {o : Nat} {x v : Int32} (ho : o < 6) (kt : hld o x v = true → Q (.returned (some (.int (nI 1)))) h sz k n) (kf : hld o x v = false → Q (.returned (some (.int (nI 0)))) h sz k n) : Ev E m_Md_holds d 0 [some (.int (nI o)), some (.int x), some (.int v)] [] h sz k n Q := by
  obtain ho' | ho' | ho' | ho' | ho' | ho' : o = 0 ∨ o = 1 ∨ o = 2 ∨ o = 3 ∨ o = 4 ∨ o = 5 := by omega
  · subst ho'
    refine ev_iload_0 (ev_dt dt_Md_holds_0 0 rfl) ?_
    refine ev_if_neF (tgt := 17) (ev_dt dt_Md_holds_0 1 rfl) (by decide) (by decide +kernel) ?_
    refine ev_iload_1 (ev_dt dt_Md_holds_0 2 rfl) ?_
    refine ev_iload_2 (ev_dt dt_Md_holds_0 3 rfl) ?_
    refine ev_icmp_ne (tgt := 13) (ev_dt dt_Md_holds_0 4 rfl) (by decide) (fun g1 => ?_) (fun g1 => ?_)
    · refine ev_ic0 (ev_dt dt_Md_holds_0 7 rfl) ?_
      refine ev_goto (tgt := 99) (ev_dt dt_Md_holds_0 8 rfl) (by decide) ?_
      exact ev_ireturn (ev_dt dt_Md_holds_0 55 rfl) rfl bz0 (kf (decide_eq_false g1))
    · refine ev_ic1 (ev_dt dt_Md_holds_0 5 rfl) ?_
      refine ev_goto (tgt := 99) (ev_dt dt_Md_holds_0 6 rfl) (by decide) ?_
      exact ev_ireturn (ev_dt dt_Md_holds_0 55 rfl) rfl bz1 (kt (decide_eq_true g1))
  · subst ho'
    refine ev_iload_0 (ev_dt dt_Md_holds_0 0 rfl) ?_
    refine ev_if_neT (tgt := 17) (ev_dt dt_Md_holds_0 1 rfl) (by decide) (by decide +kernel) ?_
    refine ev_iload_0 (ev_dt dt_Md_holds_0 9 rfl) ?_
    refine ev_ic1 (ev_dt dt_Md_holds_0 10 rfl) ?_
    refine ev_icmp_neF (tgt := 35) (ev_dt dt_Md_holds_0 11 rfl) (by decide) rfl ?_
    refine ev_iload_1 (ev_dt dt_Md_holds_0 12 rfl) ?_
    refine ev_iload_2 (ev_dt dt_Md_holds_0 13 rfl) ?_
    refine ev_icmp_eq (tgt := 31) (ev_dt dt_Md_holds_0 14 rfl) (by decide) (fun g1 => ?_) (fun g1 => ?_)
    · refine ev_ic0 (ev_dt dt_Md_holds_0 17 rfl) ?_
      refine ev_goto (tgt := 99) (ev_dt dt_Md_holds_0 18 rfl) (by decide) ?_
      exact ev_ireturn (ev_dt dt_Md_holds_0 55 rfl) rfl bz0 (kf (by show (!decide _) = false; rw [decide_eq_true g1]; rfl))
    · refine ev_ic1 (ev_dt dt_Md_holds_0 15 rfl) ?_
      refine ev_goto (tgt := 99) (ev_dt dt_Md_holds_0 16 rfl) (by decide) ?_
      exact ev_ireturn (ev_dt dt_Md_holds_0 55 rfl) rfl bz1 (kt (by show (!decide _) = true; rw [decide_eq_false g1]; rfl))
  · subst ho'
    refine ev_iload_0 (ev_dt dt_Md_holds_0 0 rfl) ?_
    refine ev_if_neT (tgt := 17) (ev_dt dt_Md_holds_0 1 rfl) (by decide) (by decide +kernel) ?_
    refine ev_iload_0 (ev_dt dt_Md_holds_0 9 rfl) ?_
    refine ev_ic1 (ev_dt dt_Md_holds_0 10 rfl) ?_
    refine ev_icmp_neT (tgt := 35) (ev_dt dt_Md_holds_0 11 rfl) (by decide) (by decide +kernel) ?_
    refine ev_iload_0 (ev_dt dt_Md_holds_0 19 rfl) ?_
    refine ev_ic2 (ev_dt dt_Md_holds_0 20 rfl) ?_
    refine ev_icmp_neF (tgt := 53) (ev_dt dt_Md_holds_0 21 rfl) (by decide) rfl ?_
    refine ev_iload_1 (ev_dt dt_Md_holds_0 22 rfl) ?_
    refine ev_iload_2 (ev_dt dt_Md_holds_0 23 rfl) ?_
    refine ev_icmp_ge (tgt := 49) (ev_dt dt_Md_holds_0 24 rfl) (by decide) (fun g1 => ?_) (fun g1 => ?_)
    · refine ev_ic0 (ev_dt dt_Md_holds_0 27 rfl) ?_
      refine ev_goto (tgt := 99) (ev_dt dt_Md_holds_0 28 rfl) (by decide) ?_
      exact ev_ireturn (ev_dt dt_Md_holds_0 55 rfl) rfl bz0 (kf (decide_eq_false (Int32.not_lt.mpr g1)))
    · refine ev_ic1 (ev_dt dt_Md_holds_0 25 rfl) ?_
      refine ev_goto (tgt := 99) (ev_dt dt_Md_holds_0 26 rfl) (by decide) ?_
      exact ev_ireturn (ev_dt dt_Md_holds_0 55 rfl) rfl bz1 (kt (decide_eq_true (Int32.not_le.mp g1)))
  · subst ho'
    refine ev_iload_0 (ev_dt dt_Md_holds_0 0 rfl) ?_
    refine ev_if_neT (tgt := 17) (ev_dt dt_Md_holds_0 1 rfl) (by decide) (by decide +kernel) ?_
    refine ev_iload_0 (ev_dt dt_Md_holds_0 9 rfl) ?_
    refine ev_ic1 (ev_dt dt_Md_holds_0 10 rfl) ?_
    refine ev_icmp_neT (tgt := 35) (ev_dt dt_Md_holds_0 11 rfl) (by decide) (by decide +kernel) ?_
    refine ev_iload_0 (ev_dt dt_Md_holds_0 19 rfl) ?_
    refine ev_ic2 (ev_dt dt_Md_holds_0 20 rfl) ?_
    refine ev_icmp_neT (tgt := 53) (ev_dt dt_Md_holds_0 21 rfl) (by decide) (by decide +kernel) ?_
    refine ev_iload_0 (ev_dt dt_Md_holds_0 29 rfl) ?_
    refine ev_ic3 (ev_dt dt_Md_holds_0 30 rfl) ?_
    refine ev_icmp_neF (tgt := 71) (ev_dt dt_Md_holds_0 31 rfl) (by decide) rfl ?_
    refine ev_iload_1 (ev_dt dt_Md_holds_0 32 rfl) ?_
    refine ev_iload_2 (ev_dt dt_Md_holds_0 33 rfl) ?_
    refine ev_icmp_gt (tgt := 67) (ev_dt dt_Md_holds_0 34 rfl) (by decide) (fun g1 => ?_) (fun g1 => ?_)
    · refine ev_ic0 (ev_dt dt_Md_holds_0 37 rfl) ?_
      refine ev_goto (tgt := 99) (ev_dt dt_Md_holds_0 38 rfl) (by decide) ?_
      exact ev_ireturn (ev_dt dt_Md_holds_0 55 rfl) rfl bz0 (kf (decide_eq_false (Int32.not_le.mpr g1)))
    · refine ev_ic1 (ev_dt dt_Md_holds_0 35 rfl) ?_
      refine ev_goto (tgt := 99) (ev_dt dt_Md_holds_0 36 rfl) (by decide) ?_
      exact ev_ireturn (ev_dt dt_Md_holds_0 55 rfl) rfl bz1 (kt (decide_eq_true (Int32.not_lt.mp g1)))
  · subst ho'
    refine ev_iload_0 (ev_dt dt_Md_holds_0 0 rfl) ?_
    refine ev_if_neT (tgt := 17) (ev_dt dt_Md_holds_0 1 rfl) (by decide) (by decide +kernel) ?_
    refine ev_iload_0 (ev_dt dt_Md_holds_0 9 rfl) ?_
    refine ev_ic1 (ev_dt dt_Md_holds_0 10 rfl) ?_
    refine ev_icmp_neT (tgt := 35) (ev_dt dt_Md_holds_0 11 rfl) (by decide) (by decide +kernel) ?_
    refine ev_iload_0 (ev_dt dt_Md_holds_0 19 rfl) ?_
    refine ev_ic2 (ev_dt dt_Md_holds_0 20 rfl) ?_
    refine ev_icmp_neT (tgt := 53) (ev_dt dt_Md_holds_0 21 rfl) (by decide) (by decide +kernel) ?_
    refine ev_iload_0 (ev_dt dt_Md_holds_0 29 rfl) ?_
    refine ev_ic3 (ev_dt dt_Md_holds_0 30 rfl) ?_
    refine ev_icmp_neT (tgt := 71) (ev_dt dt_Md_holds_0 31 rfl) (by decide) (by decide +kernel) ?_
    refine ev_iload_0 (ev_dt dt_Md_holds_0 39 rfl) ?_
    refine ev_ic4 (ev_dt dt_Md_holds_0 40 rfl) ?_
    refine ev_icmp_neF (tgt := 89) (ev_dt dt_Md_holds_0 41 rfl) (by decide) rfl ?_
    refine ev_iload_1 (ev_dt dt_Md_holds_0 42 rfl) ?_
    refine ev_iload_2 (ev_dt dt_Md_holds_0 43 rfl) ?_
    refine ev_icmp_le (tgt := 85) (ev_dt dt_Md_holds_0 44 rfl) (by decide) (fun g1 => ?_) (fun g1 => ?_)
    · refine ev_ic0 (ev_dt dt_Md_holds_0 47 rfl) ?_
      refine ev_goto (tgt := 99) (ev_dt dt_Md_holds_0 48 rfl) (by decide) ?_
      exact ev_ireturn (ev_dt dt_Md_holds_0 55 rfl) rfl bz0 (kf (decide_eq_false (Int32.not_lt.mpr g1)))
    · refine ev_ic1 (ev_dt dt_Md_holds_0 45 rfl) ?_
      refine ev_goto (tgt := 99) (ev_dt dt_Md_holds_0 46 rfl) (by decide) ?_
      exact ev_ireturn (ev_dt dt_Md_holds_0 55 rfl) rfl bz1 (kt (decide_eq_true (Int32.not_le.mp g1)))
  · subst ho'
    refine ev_iload_0 (ev_dt dt_Md_holds_0 0 rfl) ?_
    refine ev_if_neT (tgt := 17) (ev_dt dt_Md_holds_0 1 rfl) (by decide) (by decide +kernel) ?_
    refine ev_iload_0 (ev_dt dt_Md_holds_0 9 rfl) ?_
    refine ev_ic1 (ev_dt dt_Md_holds_0 10 rfl) ?_
    refine ev_icmp_neT (tgt := 35) (ev_dt dt_Md_holds_0 11 rfl) (by decide) (by decide +kernel) ?_
    refine ev_iload_0 (ev_dt dt_Md_holds_0 19 rfl) ?_
    refine ev_ic2 (ev_dt dt_Md_holds_0 20 rfl) ?_
    refine ev_icmp_neT (tgt := 53) (ev_dt dt_Md_holds_0 21 rfl) (by decide) (by decide +kernel) ?_
    refine ev_iload_0 (ev_dt dt_Md_holds_0 29 rfl) ?_
    refine ev_ic3 (ev_dt dt_Md_holds_0 30 rfl) ?_
    refine ev_icmp_neT (tgt := 71) (ev_dt dt_Md_holds_0 31 rfl) (by decide) (by decide +kernel) ?_
    refine ev_iload_0 (ev_dt dt_Md_holds_0 39 rfl) ?_
    refine ev_ic4 (ev_dt dt_Md_holds_0 40 rfl) ?_
    refine ev_icmp_neT (tgt := 89) (ev_dt dt_Md_holds_0 41 rfl) (by decide) (by decide +kernel) ?_
    refine ev_iload_1 (ev_dt dt_Md_holds_0 49 rfl) ?_
    refine ev_iload_2 (ev_dt dt_Md_holds_0 50 rfl) ?_
    refine ev_icmp_lt (tgt := 98) (ev_dt dt_Md_holds_0 51 rfl) (by decide) (fun g1 => ?_) (fun g1 => ?_)
    · refine ev_ic0 (ev_dt dt_Md_holds_0 54 rfl) ?_
      exact ev_ireturn (ev_dt dt_Md_holds_0 55 rfl) rfl bz0 (kf (decide_eq_false (Int32.not_le.mpr g1)))
    · refine ev_ic1 (ev_dt dt_Md_holds_0 52 rfl) ?_
      refine ev_goto (tgt := 99) (ev_dt dt_Md_holds_0 53 rfl) (by decide) ?_
      exact ev_ireturn (ev_dt dt_Md_holds_0 55 rfl) rfl bz1 (kt (decide_eq_true (Int32.not_lt.mp g1)))
theorem r_passes {r : Nat} {T : Nat → Bool} {s cc : Nat} {cn co : Nat → Nat} {th : Nat → Int32} (hM : Rf E m F A h) (hC : RC A T s cc cn co th) (hr : r < 120) (kk : Q (.returned (some (.int (b2 (pR A T cc cn co th r))))) h sz k n) : Ev E m_Md_passes (d + 1) 0 [some (.ref m), some (.int (nI s)), some (.int (nI r)), none, none] [] h sz k n Q := by
  obtain ⟨hT, hs4, hcc, hc4, hcd⟩ := hC
  have loop : ∀ m' j, j + m' = cc → Ev E m_Md_passes (d + 1) 12 [some (.ref m), some (.int (nI s)), some (.int (nI r)), some (.int (b2 (T r && okb cn co th (rV A r) j))), some (.int (nI (4 * s + j)))] [] h sz k n Q := by
    intro m'
    induction m' with
    | zero =>
      intro j hj
      refine ev_iload_4 (ev_dt dt_Md_passes_0 9 rfl) ?_
      refine ev_ic4 (ev_dt dt_Md_passes_0 10 rfl) ?_
      refine ev_iload_1 (ev_dt dt_Md_passes_0 11 rfl) ?_
      refine ev_imul (ev_dt dt_Md_passes_0 12 rfl) (nI_mul _ _) ?_
      refine ev_aload_0 (ev_dt dt_Md_passes_0 13 rfl) ?_
      refine ev_get (v := .ref (m + 11)) (ev_dt dt_Md_passes_0 14 rfl) g_Md_41_10 hM.1 rfl ?_
      refine ev_iload_1 (ev_dt dt_Md_passes_0 15 rfl) ?_
      refine ev_iald (f := A 10) (ev_dt dt_Md_passes_0 16 rfl) hM.a10 (by omega) (by decide) rfl ?_
      rw [hcc]
      refine ev_addn (ev_dt dt_Md_passes_0 17 rfl) ?_
      refine ev_icmp_geT (tgt := 79) (ev_dt dt_Md_passes_0 18 rfl) (by decide) (nI_le (by omega) (by omega)) ?_
      refine ev_iload_3 (ev_dt dt_Md_passes_0 48 rfl) ?_
      rw [show j = cc by omega]
      exact ev_ireturn (ev_dt dt_Md_passes_0 49 rfl) rfl (b2_n _) kk
    | succ m' ih =>
      intro j hj
      refine ev_iload_4 (ev_dt dt_Md_passes_0 9 rfl) ?_
      refine ev_ic4 (ev_dt dt_Md_passes_0 10 rfl) ?_
      refine ev_iload_1 (ev_dt dt_Md_passes_0 11 rfl) ?_
      refine ev_imul (ev_dt dt_Md_passes_0 12 rfl) (nI_mul _ _) ?_
      refine ev_aload_0 (ev_dt dt_Md_passes_0 13 rfl) ?_
      refine ev_get (v := .ref (m + 11)) (ev_dt dt_Md_passes_0 14 rfl) g_Md_41_10 hM.1 rfl ?_
      refine ev_iload_1 (ev_dt dt_Md_passes_0 15 rfl) ?_
      refine ev_iald (f := A 10) (ev_dt dt_Md_passes_0 16 rfl) hM.a10 (by omega) (by decide) rfl ?_
      rw [hcc]
      refine ev_addn (ev_dt dt_Md_passes_0 17 rfl) ?_
      refine ev_icmp_geF (tgt := 79) (ev_dt dt_Md_passes_0 18 rfl) (by decide) (nI_ge (by omega) (by omega)) ?_
      obtain ⟨c1, c2, c3, c4, c5⟩ := hcd j (by omega)
      refine ev_iload_3 (ev_dt dt_Md_passes_0 19 rfl) ?_
      refine ev_if_eq (tgt := 71) (ev_dt dt_Md_passes_0 20 rfl) (by decide) (fun g1 => ?_) (fun g1 => ?_)
      · refine ev_ic0 (ev_dt dt_Md_passes_0 44 rfl) ?_
        refine ev_istore_3 (ev_dt dt_Md_passes_0 45 rfl) (by decide) rfl ?_
        refine ev_inc1_4 (ev_dt dt_Md_passes_0 46 rfl) (by decide) rfl ?_
        refine ev_goto (tgt := 12) (ev_dt dt_Md_passes_0 47 rfl) (by decide) ?_
        have e : (T r && okb cn co th (rV A r) (j + 1)) = false := by
          rw [okb, ← Bool.and_assoc, b2_0.mp g1, Bool.false_and]
        rw [← b2_f, ← e]
        exact ih (j + 1) (by omega)
      · have g1' := b2_1 g1
        refine ev_aload_0 (ev_dt dt_Md_passes_0 21 rfl) ?_
        refine ev_get (v := .ref (m + 13)) (ev_dt dt_Md_passes_0 22 rfl) g_Md_47_10 hM.1 rfl ?_
        refine ev_iload_4 (ev_dt dt_Md_passes_0 23 rfl) ?_
        refine ev_iald (f := A 12) (ev_dt dt_Md_passes_0 24 rfl) hM.a12 (by omega) (by decide) rfl ?_
        rw [c3]
        refine ev_aload_0 (ev_dt dt_Md_passes_0 25 rfl) ?_
        refine ev_get (v := .ref (m + 2)) (ev_dt dt_Md_passes_0 26 rfl) g_Md_13_10 hM.1 rfl ?_
        refine ev_ic4 (ev_dt dt_Md_passes_0 27 rfl) ?_
        refine ev_iload_2 (ev_dt dt_Md_passes_0 28 rfl) ?_
        refine ev_imul (ev_dt dt_Md_passes_0 29 rfl) (nI_mul _ _) ?_
        refine ev_aload_0 (ev_dt dt_Md_passes_0 30 rfl) ?_
        refine ev_get (v := .ref (m + 12)) (ev_dt dt_Md_passes_0 31 rfl) g_Md_44_10 hM.1 rfl ?_
        refine ev_iload_4 (ev_dt dt_Md_passes_0 32 rfl) ?_
        refine ev_iald (f := A 11) (ev_dt dt_Md_passes_0 33 rfl) hM.a11 (by omega) (by decide) rfl ?_
        rw [c1]
        refine ev_addn (ev_dt dt_Md_passes_0 34 rfl) ?_
        refine ev_iald (f := A 1) (ev_dt dt_Md_passes_0 35 rfl) hM.a1 (by omega) (by decide) rfl ?_
        refine ev_aload_0 (ev_dt dt_Md_passes_0 36 rfl) ?_
        refine ev_get (v := .ref (m + 14)) (ev_dt dt_Md_passes_0 37 rfl) g_Md_50_10 hM.1 rfl ?_
        refine ev_iload_4 (ev_dt dt_Md_passes_0 38 rfl) ?_
        refine ev_iald (f := A 13) (ev_dt dt_Md_passes_0 39 rfl) hM.a13 (by omega) (by decide) rfl ?_
        rw [c5]
        refine ev_callS (ev_dt dt_Md_passes_0 40 rfl) s_Md_155 [.int (nI (co j)), .int (A 1 ((4 * r) + (cn j))), .int (th j)] rfl np_Md_holds rfl (ev_lk_of (j := 0) rfl rfl) (r_holds c4 (fun hx => ev_r1 ?_) (fun hx => ev_r1 ?_))
        · refine ev_if_eqF (tgt := 71) (ev_dt dt_Md_passes_0 41 rfl) (by decide) z10 ?_
          refine ev_ic1 (ev_dt dt_Md_passes_0 42 rfl) ?_
          refine ev_goto (tgt := 72) (ev_dt dt_Md_passes_0 43 rfl) (by decide) ?_
          refine ev_istore_3 (ev_dt dt_Md_passes_0 45 rfl) (by decide) rfl ?_
          refine ev_inc1_4 (ev_dt dt_Md_passes_0 46 rfl) (by decide) rfl ?_
          refine ev_goto (tgt := 12) (ev_dt dt_Md_passes_0 47 rfl) (by decide) ?_
          have e : (T r && okb cn co th (rV A r) (j + 1)) = true := by
            rw [okb, ← Bool.and_assoc, g1', Bool.true_and]; exact hx
          rw [← b2_t, ← e]
          exact ih (j + 1) (by omega)
        · refine ev_if_eqT (tgt := 71) (ev_dt dt_Md_passes_0 41 rfl) (by decide) z00 ?_
          refine ev_ic0 (ev_dt dt_Md_passes_0 44 rfl) ?_
          refine ev_istore_3 (ev_dt dt_Md_passes_0 45 rfl) (by decide) rfl ?_
          refine ev_inc1_4 (ev_dt dt_Md_passes_0 46 rfl) (by decide) rfl ?_
          refine ev_goto (tgt := 12) (ev_dt dt_Md_passes_0 47 rfl) (by decide) ?_
          have e : (T r && okb cn co th (rV A r) (j + 1)) = false := by
            rw [okb, ← Bool.and_assoc, g1', Bool.true_and]; exact hx
          rw [← b2_f, ← e]
          exact ih (j + 1) (by omega)
  refine ev_aload_0 (ev_dt dt_Md_passes_0 0 rfl) ?_
  refine ev_get (v := .ref (m + 1)) (ev_dt dt_Md_passes_0 1 rfl) g_Md_7_10 hM.1 rfl ?_
  refine ev_iload_2 (ev_dt dt_Md_passes_0 2 rfl) ?_
  refine ev_zald (f := A 0) (ev_dt dt_Md_passes_0 3 rfl) hM.a0 (by omega) (by decide) rfl ?_
  rw [hT r hr]
  refine ev_istore_3 (ev_dt dt_Md_passes_0 4 rfl) (by decide) rfl ?_
  refine ev_ic4 (ev_dt dt_Md_passes_0 5 rfl) ?_
  refine ev_iload_1 (ev_dt dt_Md_passes_0 6 rfl) ?_
  refine ev_imul (ev_dt dt_Md_passes_0 7 rfl) (nI_mul _ _) ?_
  refine ev_istore_4 (ev_dt dt_Md_passes_0 8 rfl) (by decide) rfl ?_
  rw [show T r = (T r && okb cn co th (rV A r) 0) by rw [okb, Bool.and_true]]
  exact loop cc 0 (by omega)
end R6
