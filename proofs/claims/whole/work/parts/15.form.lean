/-! Forms. T: kinds, columns, a, b of what the reference has made. -/
abbrev mdt : Type := (Nat → Int32) × (Nat → Int32) × (Nat → Int32) × (Nat → Int32)
abbrev tK (T : mdt) : Nat → Int32 := T.1
abbrev tC (T : mdt) : Nat → Int32 := T.2.1
abbrev tA (T : mdt) : Nat → Int32 := T.2.2.1
abbrev tB (T : mdt) : Nat → Int32 := T.2.2.2
def fm (T : mdt) (i : Nat) : List Int32 :=
  if tK T i = nI 9 then (if _h : (tA T i).toNatClampNeg < i then nI 9 :: fm T (tA T i).toNatClampNeg else [])
  else if nI 5 < tK T i then (if _h : (tA T i).toNatClampNeg < i ∧ (tB T i).toNatClampNeg < i then tK T i :: (fm T (tA T i).toNatClampNeg ++ fm T (tB T i).toNatClampNeg) else [])
  else tK T i :: tC T i :: (if tK T i = nI 3 then [tA T i, tB T i] else if nI 1 < tK T i then [tA T i] else [])
termination_by i
decreasing_by all_goals omega
theorem fm_9 {T : mdt} {i a : Nat} (hk : tK T i = nI 9) (ha : tA T i = nI a) (hl : a < i) (hi : i < 65536) : fm T i = nI 9 :: fm T a := by
  have e : (tA T i).toNatClampNeg = a := by rw [ha, nI_clamp (by omega)]
  rw [fm, if_pos hk, e, dif_pos hl]
theorem fm_t {T : mdt} {i a b : Nat} (h9 : ¬ tK T i = nI 9) (hk : nI 5 < tK T i) (ha : tA T i = nI a) (hb : tB T i = nI b) (hl : a < i) (hl2 : b < i) (hi : i < 65536) : fm T i = tK T i :: (fm T a ++ fm T b) := by
  have e : (tA T i).toNatClampNeg = a := by rw [ha, nI_clamp (by omega)]
  have e2 : (tB T i).toNatClampNeg = b := by rw [hb, nI_clamp (by omega)]
  rw [fm, if_neg h9, if_pos hk, e, e2, dif_pos ⟨hl, hl2⟩]
theorem fm_o {T : mdt} {i : Nat} (h9 : ¬ tK T i = nI 9) (hk : ¬ nI 5 < tK T i) : fm T i = tK T i :: tC T i :: (if tK T i = nI 3 then [tA T i, tB T i] else if nI 1 < tK T i then [tA T i] else []) := by
  rw [fm, if_neg h9, if_neg hk]
/-- rows that are as they are made -/
def okE (T : mdt) (i : Nat) : Prop :=
  (tK T i = nI 9 ∧ tC T i = -1 ∧ ∃ a, a < i ∧ tA T i = nI a ∧ tB T i = nI a) ∨
  (¬ tK T i = nI 9 ∧ nI 5 < tK T i ∧ tC T i = -1 ∧ ∃ a b, a < i ∧ b < i ∧ tA T i = nI a ∧ tB T i = nI b) ∨
  (¬ tK T i = nI 9 ∧ ¬ nI 5 < tK T i ∧ (¬ tK T i = nI 3 → tB T i = nI 0) ∧ (¬ nI 1 < tK T i → tA T i = nI 0))
def okM (T : mdt) (m : Nat) : Prop := m ≤ 100 ∧ (∀ i, i < m → okE T i) ∧ ∀ i j, i < m → j < m → tK T i = tK T j → tC T i = tC T j → tA T i = tA T j → tB T i = tB T j → i = j
theorem fm_head {T : mdt} {i : Nat} (h : okE T i) (hi : i < 65536) : ∃ t, fm T i = tK T i :: t := by
  rcases h with ⟨h1, _, a, ha, e1, _⟩ | ⟨h1, h2, _, a, b, ha, hb, e1, e2⟩ | ⟨h1, h2, _, _⟩
  · exact ⟨_, by rw [fm_9 h1 e1 ha hi, h1]⟩
  · exact ⟨_, fm_t h1 h2 e1 e2 ha hb hi⟩
  · exact ⟨_, fm_o h1 h2⟩
def sk : Nat → List Int32 → Option (List Int32)
  | 0, _ => none
  | _ + 1, [] => none
  | f + 1, x :: t => if x = nI 9 then sk f t else if nI 5 < x then (sk f t).bind (sk f) else if x = nI 3 then some (t.drop 3) else if nI 1 < x then some (t.drop 2) else some (t.drop 1)
theorem sk_fm {T : mdt} {m : Nat} (hM : okM T m) : ∀ i, i < m → ∀ f, i < f → ∀ t, sk f (fm T i ++ t) = some t := by
  have hm := hM.1
  intro i
  induction i using Nat.strongRecOn with
  | _ i ih =>
    intro hi f hf t
    obtain ⟨f, rfl⟩ : ∃ g, f = g + 1 := ⟨f - 1, by omega⟩
    rcases hM.2.1 i hi with ⟨h1, _, a, ha, e1, _⟩ | ⟨h1, h2, _, a, b, ha, hb, e1, e2⟩ | ⟨h1, h2, _, _⟩
    · rw [fm_9 h1 e1 ha (by omega), List.cons_append]
      simp only [sk, if_true]
      exact ih a ha (by omega) f (by omega) t
    · rw [fm_t h1 h2 e1 e2 ha hb (by omega), List.cons_append, List.append_assoc]
      simp only [sk, if_neg h1, if_pos h2]
      rw [ih a ha (by omega) f (by omega) _, Option.bind_some]
      exact ih b hb (by omega) f (by omega) t
    · rw [fm_o h1 h2, List.cons_append]
      simp only [sk, if_neg h1, if_neg h2]
      by_cases h3 : tK T i = nI 3
      · simp [h3]
      · rw [if_neg h3, if_neg h3]
        by_cases h4 : nI 1 < tK T i
        · simp [h4]
        · simp [h4]
theorem fm_inj {T : mdt} {m : Nat} (hM : okM T m) : ∀ i, i < m → ∀ j, j < m → fm T i = fm T j → i = j := by
  have hm := hM.1
  intro i
  induction i using Nat.strongRecOn with
  | _ i ih =>
    intro hi j hj h
    obtain ⟨ti, hti⟩ := fm_head (hM.2.1 i hi) (by omega)
    obtain ⟨tj, htj⟩ := fm_head (hM.2.1 j hj) (by omega)
    have hk : tK T i = tK T j := by rw [hti, htj] at h; exact (List.cons.inj h).1
    rcases hM.2.1 i hi with ⟨h1, c1, a, ha, e1, e1'⟩ | ⟨h1, h2, c1, a, b, ha, hb, e1, e2⟩ | ⟨h1, h2, c1, c2⟩
    · rcases hM.2.1 j hj with ⟨g1, d1, a', ha', f1, f1'⟩ | ⟨g1, _⟩ | ⟨g1, _⟩
      · rw [fm_9 h1 e1 ha (by omega), fm_9 g1 f1 ha' (by omega)] at h
        have := ih a ha (by omega) a' (by omega) (List.cons.inj h).2
        subst this
        exact hM.2.2 i j hi hj hk (c1.trans d1.symm) (e1.trans f1.symm) (e1'.trans f1'.symm)
      · exact absurd (hk.symm.trans h1) g1
      · exact absurd (hk.symm.trans h1) g1
    · rcases hM.2.1 j hj with ⟨g1, _⟩ | ⟨g1, g2, d1, a', b', ha', hb', f1, f2⟩ | ⟨g1, g2, _⟩
      · exact absurd (hk.trans g1) h1
      · rw [fm_t h1 h2 e1 e2 ha hb (by omega), fm_t g1 g2 f1 f2 ha' hb' (by omega)] at h
        have h3 := (List.cons.inj h).2
        have s1 := sk_fm hM a (by omega) 200 (by omega) (fm T b)
        have s2 := sk_fm hM a' (by omega) 200 (by omega) (fm T b')
        rw [h3] at s1
        have h4 : fm T b = fm T b' := Option.some.inj (s1.symm.trans s2)
        rw [h4] at h3
        have h5 : fm T a = fm T a' := List.append_cancel_right h3
        have q1 := ih a ha (by omega) a' (by omega) h5
        have q2 := ih b hb (by omega) b' (by omega) h4
        subst q1; subst q2
        exact hM.2.2 i j hi hj hk (c1.trans d1.symm) (e1.trans f1.symm) (e2.trans f2.symm)
      · exact absurd (hk ▸ h2) g2
    · rcases hM.2.1 j hj with ⟨g1, _⟩ | ⟨g1, g2, _⟩ | ⟨g1, g2, d1, d2⟩
      · exact absurd (hk.trans g1) h1
      · exact absurd (hk ▸ g2) h2
      · rw [fm_o h1 h2, fm_o g1 g2] at h
        have h3 := (List.cons.inj h).2
        have hc := (List.cons.inj h3).1
        have h4 := (List.cons.inj h3).2
        refine hM.2.2 i j hi hj hk hc ?_ ?_
        · by_cases q : tK T i = nI 3
          · rw [if_pos q, if_pos (hk ▸ q)] at h4
            exact (List.cons.inj h4).1
          · rw [if_neg q, if_neg (fun z => q (hk.trans z))] at h4
            by_cases q1 : nI 1 < tK T i
            · rw [if_pos q1, if_pos (hk ▸ q1)] at h4
              exact (List.cons.inj h4).1
            · rw [c2 q1, d2 (fun z => q1 (hk ▸ z))]
        · by_cases q : tK T i = nI 3
          · rw [if_pos q, if_pos (hk ▸ q)] at h4
            exact (List.cons.inj (List.cons.inj h4).2).1
          · rw [c1 q, d1 (fun z => q (hk.trans z))]
/-- earlier rows stay as they are: so do their forms -/
theorem fm_keep {T T' : mdt} {m : Nat} (hM : okM T m) (h : ∀ i, i < m → tK T' i = tK T i ∧ tC T' i = tC T i ∧ tA T' i = tA T i ∧ tB T' i = tB T i) : ∀ i, i < m → fm T' i = fm T i := by
  have hm := hM.1
  intro i
  induction i using Nat.strongRecOn with
  | _ i ih =>
    intro hi
    obtain ⟨k1, k2, k3, k4⟩ := h i hi
    rcases hM.2.1 i hi with ⟨h1, _, a, ha, e1, _⟩ | ⟨h1, h2, _, a, b, ha, hb, e1, e2⟩ | ⟨h1, h2, _, _⟩
    · rw [fm_9 h1 e1 ha (by omega), fm_9 (k1.trans h1) (k3.trans e1) ha (by omega), ih a ha (by omega)]
    · rw [fm_t h1 h2 e1 e2 ha hb (by omega), fm_t (T := T') (by rw [k1]; exact h1) (by rw [k1]; exact h2) (k3.trans e1) (k4.trans e2) ha hb (by omega), ih a ha (by omega), ih b hb (by omega), k1]
    · rw [fm_o h1 h2, fm_o (T := T') (by rw [k1]; exact h1) (by rw [k1]; exact h2), k1, k2, k3, k4]
/-- the reduced form of a node -/
def rd : List Int32 → List Int32
  | [] => [nI 9]
  | x :: t => if x = nI 9 then t else if x = nI 0 then nI 1 :: t else if x = nI 1 then nI 0 :: t else nI 9 :: x :: t
def rt (k : Nat) (cp cq : Int32) (p q : List Int32) : List Int32 :=
  if k = 9 then rd p else if p = q ∨ (k = 7 ∧ cq &&& (cp ^^^ (-1)) = nI 0) then p
  else if k ≠ 7 ∧ p.head? = some (nI 9) ∧ q.head? = some (nI 9) then nI 9 :: nI k :: (p.tail ++ q.tail) else nI k :: (p ++ q)
def ro (N : nod) (n : Nat) : List Int32 := nI (nK N n) :: nI (nC N n) :: (if nK N n < 2 then [] else if nK N n = 2 then [nA N n] else if nK N n = 3 then [nA N n, nB N n] else [nI n])
def rf (N : nod) (cols : Nat → Int32) (n : Nat) : List Int32 :=
  if nK N n < 6 then ro N n else if _h : nL N n < n ∧ nQ N n < n then rt (nK N n) (cols (nL N n)) (cols (nQ N n)) (rf N cols (nL N n)) (rf N cols (nQ N n)) else []
termination_by n
decreasing_by all_goals omega
theorem rf_o {N : nod} {cols : Nat → Int32} {n : Nat} (h : nK N n < 6) : rf N cols n = ro N n := by rw [rf, if_pos h]
theorem rf_t {N : nod} {cols : Nat → Int32} {n : Nat} (h : ¬ nK N n < 6) (hc : nL N n < n ∧ nQ N n < n) : rf N cols n = rt (nK N n) (cols (nL N n)) (cols (nQ N n)) (rf N cols (nL N n)) (rf N cols (nQ N n)) := by rw [rf, if_neg h, dif_pos hc]
