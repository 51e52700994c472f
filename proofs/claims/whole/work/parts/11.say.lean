/-! What nodes say: 0 NEITHER, 1 BETTER, 2 WORSE, 3 SAME, as Fin 4. -/
def jn (k : Nat) (a b : Fin 4) : Fin 4 :=
  if k = 9 then (if a = 1 then 2 else if a = 2 then 1 else a) else if k = 7 then (if a = 3 then b else a) else if k = 6 then (if a = 3 then b else if b = 3 then a else if a = b then a else 0) else if a = b then a else 0
def fl (a : Fin 4) : Fin 4 := if a = 1 then 2 else if a = 2 then 1 else a
theorem jn_cases (k : Nat) : jn k = jn 9 ∨ jn k = jn 7 ∨ jn k = jn 6 ∨ jn k = jn 8 := by
  by_cases h9 : k = 9
  · subst h9; exact Or.inl rfl
  by_cases h7 : k = 7
  · subst h7; exact Or.inr (Or.inl rfl)
  by_cases h6 : k = 6
  · subst h6; exact Or.inr (Or.inr (Or.inl rfl))
  refine Or.inr (Or.inr (Or.inr ?_))
  funext a b
  simp [jn, h9, h7, h6]
theorem jn_fl (k : Nat) : ∀ a b : Fin 4, jn k (fl a) (fl b) = fl (jn k a b) := by
  rcases jn_cases k with h | h | h | h <;> rw [h] <;> decide
theorem jn_same (k : Nat) : ∀ a b : Fin 4, jn k a b = 3 → a = 3 ∧ (k ≠ 9 → b = 3) := by
  by_cases h9 : k = 9
  · subst h9
    intro a b h
    exact ⟨by revert a b; decide, fun q => absurd rfl q⟩
  · intro a b h
    have : a = 3 ∧ b = 3 := by
      by_cases h7 : k = 7
      · subst h7; revert a b; decide
      by_cases h6 : k = 6
      · subst h6; revert a b; decide
      have e : jn k = jn 8 := by funext a b; simp [jn, h9, h7, h6]
      rw [e] at h
      revert a b; decide
    exact ⟨this.1, fun _ => this.2⟩
theorem j9 : ∀ a b : Fin 4, jn 9 a b = 1 ↔ a = 2 := by decide
theorem j7 : ∀ a b : Fin 4, jn 7 a b = 1 ↔ a = 1 ∨ (a = 3 ∧ b = 1) := by decide
theorem j6 : ∀ a b : Fin 4, jn 6 a b = 1 ↔ (a = 3 ∧ b = 1) ∨ (a = 1 ∧ b = 3) ∨ (a = 1 ∧ b = 1) := by decide
theorem j8 : ∀ a b : Fin 4, jn 8 a b = 1 ↔ a = 1 ∧ b = 1 := by decide
/-- better than: what is better, joined (a, b: of u and v; a', b': of v and w; a2, b2: of u and w) -/
theorem jn_trans (k : Nat) (a b a' b' a2 b2 : Fin 4) (t1 : a = 1 → a' = 1 → a2 = 1) (t2 : a = 2 → a' = 2 → a2 = 2) (t3 : a = 3 → a2 = a') (t4 : a' = 3 → a2 = a) (u1 : b = 1 → b' = 1 → b2 = 1) (u3 : b = 3 → b2 = b') (u4 : b' = 3 → b2 = b)
    (h1 : jn k a b = 1) (h2 : jn k a' b' = 1) : jn k a2 b2 = 1 := by
  rcases jn_cases k with h | h | h | h <;> rw [h] at h1 h2 ⊢
  · rw [j9] at h1 h2 ⊢
    exact t2 h1 h2
  · rw [j7] at h1 h2 ⊢
    rcases h1 with h1 | ⟨h1, g1⟩
    · rcases h2 with h2 | ⟨h2, g2⟩
      · exact Or.inl (t1 h1 h2)
      · exact Or.inl ((t4 h2).trans h1)
    · rcases h2 with h2 | ⟨h2, g2⟩
      · exact Or.inl ((t3 h1).trans h2)
      · exact Or.inr ⟨(t3 h1).trans h2, u1 g1 g2⟩
  · rw [j6] at h1 h2 ⊢
    rcases h1 with ⟨h1, g1⟩ | ⟨h1, g1⟩ | ⟨h1, g1⟩
    · rcases h2 with ⟨h2, g2⟩ | ⟨h2, g2⟩ | ⟨h2, g2⟩
      · exact Or.inl ⟨(t3 h1).trans h2, u1 g1 g2⟩
      · exact Or.inr (Or.inr ⟨(t3 h1).trans h2, (u4 g2).trans g1⟩)
      · exact Or.inr (Or.inr ⟨(t3 h1).trans h2, u1 g1 g2⟩)
    · rcases h2 with ⟨h2, g2⟩ | ⟨h2, g2⟩ | ⟨h2, g2⟩
      · exact Or.inr (Or.inr ⟨(t4 h2).trans h1, (u3 g1).trans g2⟩)
      · exact Or.inr (Or.inl ⟨t1 h1 h2, (u3 g1).trans g2⟩)
      · exact Or.inr (Or.inr ⟨t1 h1 h2, (u3 g1).trans g2⟩)
    · rcases h2 with ⟨h2, g2⟩ | ⟨h2, g2⟩ | ⟨h2, g2⟩
      · exact Or.inr (Or.inr ⟨(t4 h2).trans h1, u1 g1 g2⟩)
      · exact Or.inr (Or.inr ⟨t1 h1 h2, (u4 g2).trans g1⟩)
      · exact Or.inr (Or.inr ⟨t1 h1 h2, u1 g1 g2⟩)
  · rw [j8] at h1 h2 ⊢
    exact ⟨t1 h1.1 h2.1, u1 h1.2 h2.2⟩
/-- orders and terms: kind, column, left, right, layers, reach -/
abbrev nod : Type := (Nat → Nat) × (Nat → Nat) × (Nat → Int32) × (Nat → Int32) × (Nat → Nat → Int32) × (Nat → Nat → Int32)
abbrev nK (N : nod) : Nat → Nat := N.1
abbrev nC (N : nod) : Nat → Nat := N.2.1
abbrev nA (N : nod) : Nat → Int32 := N.2.2.1
abbrev nB (N : nod) : Nat → Int32 := N.2.2.2.1
abbrev nY (N : nod) : Nat → Nat → Int32 := N.2.2.2.2.1
abbrev nR (N : nod) : Nat → Nat → Int32 := N.2.2.2.2.2
def nL (N : nod) (n : Nat) : Nat := (nA N n).toNatClampNeg
def nQ (N : nod) (n : Nat) : Nat := (nB N n).toNatClampNeg
/-- the distance of x from what lies between lo and hi -/
def dst (lo hi x : Int) : Int := if x < lo then lo - x else if hi < x then x - hi else 0
def gr (x : Int32) : Bool := decide (0 ≤ x) && decide (x < nI 10)
def lyr (f : Nat → Int32) (x : Int32) : Int32 := if gr x = true then f x.toNatClampNeg else -1
/-- x is better than y in the order n -/
def pf (N : nod) (n : Nat) (x y : Int32) : Bool :=
  if nK N n = 0 then decide (x < y) else if nK N n = 1 then decide (y < x)
  else if nK N n = 4 then decide (lyr (nY N n) x ≠ -1) && (decide (lyr (nY N n) y = -1) || decide (lyr (nY N n) x < lyr (nY N n) y))
  else if nK N n = 5 then gr x && gr y && bt (nR N n x.toNatClampNeg) y.toNatClampNeg
  else decide (dst (nA N n).toInt (if nK N n = 2 then nA N n else nB N n).toInt x.toInt < dst (nA N n).toInt (if nK N n = 2 then nA N n else nB N n).toInt y.toInt)
def so (N : nod) (n : Nat) (x y : Int32) : Fin 4 := if x = y then 3 else if pf N n x y = true then 1 else if pf N n y x = true then 2 else 0
def say (N : nod) (u v : Nat → Int32) (n : Nat) : Fin 4 :=
  if nK N n < 6 then so N n (u (nC N n)) (v (nC N n)) else if _h : nL N n < n ∧ nQ N n < n then jn (nK N n) (say N u v (nL N n)) (say N u v (nQ N n)) else 0
termination_by n
decreasing_by all_goals omega
theorem say_o {N : nod} {u v : Nat → Int32} {n : Nat} (h : nK N n < 6) : say N u v n = so N n (u (nC N n)) (v (nC N n)) := by rw [say, if_pos h]
theorem say_t {N : nod} {u v : Nat → Int32} {n : Nat} (h : ¬ nK N n < 6) (hc : nL N n < n ∧ nQ N n < n) : say N u v n = jn (nK N n) (say N u v (nL N n)) (say N u v (nQ N n)) := by rw [say, if_neg h, dif_pos hc]
/-- the reach of a graph is closed and has no circle -/
def okR (f : Nat → Int32) : Prop := (∀ x, x < 10 → bt (f x) x = false) ∧ ∀ x y z, x < 10 → y < 10 → z < 10 → bt (f x) y = true → bt (f y) z = true → bt (f x) z = true
/-- orders are orders; terms are made of earlier nodes -/
def okN (N : nod) (c : Nat) : Prop := (∀ n, n < c → okR (nR N n)) ∧ (∀ n, n < c → ¬ nK N n < 6 → nL N n < n ∧ nQ N n < n)
theorem gr_of {x : Int32} (h : gr x = true) : x.toNatClampNeg < 10 ∧ x = nI x.toNatClampNeg := by
  simp only [gr, Bool.and_eq_true, decide_eq_true_eq] at h
  obtain ⟨j, hj, rfl⟩ := nI_of (x := x) (Int32.not_lt.mpr h.1)
  have h2 := (nI_ltI hj (by omega)).mp h.2
  rw [nI_clamp hj]
  exact ⟨h2, rfl⟩
theorem gr_nI {j : Nat} (h : j < 10) : gr (nI j) = true := by
  simp only [gr, Bool.and_eq_true, decide_eq_true_eq]
  exact ⟨nI_pos' (by omega), nI_lt h (by omega)⟩
theorem pf_irr {N : nod} {n : Nat} (ho : okR (nR N n)) (x : Int32) : pf N n x x = false := by
  unfold pf
  split
  · exact decide_eq_false Int32.lt_irrefl
  split
  · exact decide_eq_false Int32.lt_irrefl
  split
  · by_cases h : lyr (nY N n) x = -1
    · simp [h]
    · simp [h, Int32.lt_irrefl]
  split
  · by_cases h : gr x = true
    · rw [ho.1 _ (gr_of h).1]; simp
    · simp [h]
  · exact decide_eq_false (Int.lt_irrefl _)
theorem pf_tr {N : nod} {n : Nat} (ho : okR (nR N n)) {x y z : Int32} (h1 : pf N n x y = true) (h2 : pf N n y z = true) : pf N n x z = true := by
  unfold pf at h1 h2 ⊢
  split at h1
  · rename_i hk
    simp only [hk, if_true, decide_eq_true_eq] at h1 h2 ⊢
    exact Int32.lt_trans h1 h2
  rename_i hk0
  rw [if_neg hk0] at h2 ⊢
  split at h1
  · rename_i hk
    simp only [hk, if_true, decide_eq_true_eq] at h1 h2 ⊢
    exact Int32.lt_trans h2 h1
  rename_i hk1
  rw [if_neg hk1] at h2 ⊢
  split at h1
  · rename_i hk
    rw [if_pos hk] at h2 ⊢
    simp only [Bool.and_eq_true, Bool.or_eq_true, decide_eq_true_eq] at h1 h2 ⊢
    refine ⟨h1.1, ?_⟩
    rcases h1.2 with h | h
    · exact absurd h h2.1
    · rcases h2.2 with g | g
      · exact Or.inl g
      · exact Or.inr (Int32.lt_trans h g)
  rename_i hk4
  rw [if_neg hk4] at h2 ⊢
  split at h1
  · rename_i hk
    rw [if_pos hk] at h2 ⊢
    simp only [Bool.and_eq_true] at h1 h2 ⊢
    exact ⟨⟨h1.1.1, h2.1.2⟩, ho.2 _ _ _ (gr_of h1.1.1).1 (gr_of h1.1.2).1 (gr_of h2.1.2).1 h1.2 h2.2⟩
  · rename_i hk
    rw [if_neg hk] at h2 ⊢
    simp only [decide_eq_true_eq] at h1 h2 ⊢
    omega
theorem pf_asym {N : nod} {n : Nat} (ho : okR (nR N n)) {x y : Int32} (h : pf N n x y = true) : pf N n y x = false := by
  cases h2 : pf N n y x with
  | false => rfl
  | true =>
    have := pf_tr ho h h2
    rw [pf_irr ho] at this
    cases this
theorem so_fl {N : nod} {n : Nat} (ho : okR (nR N n)) (x y : Int32) : so N n y x = fl (so N n x y) := by
  unfold so
  by_cases h : x = y
  · subst h; simp; decide
  · rw [if_neg h, if_neg (Ne.symm h)]
    by_cases h1 : pf N n x y = true
    · rw [if_pos h1, if_neg (by rw [pf_asym ho h1]; decide), if_pos h1]; decide
    · by_cases h2 : pf N n y x = true
      · simp only [h1, h2, if_true, if_false]; decide
      · simp only [h1, h2, if_false]; decide
theorem so_3 {N : nod} {n : Nat} {x y : Int32} (h : so N n x y = 3) : x = y := by
  unfold so at h
  by_cases e : x = y
  · exact e
  · rw [if_neg e] at h
    split at h
    · exact absurd h (by decide)
    · split at h
      · exact absurd h (by decide)
      · exact absurd h (by decide)
theorem so_1 {N : nod} {n : Nat} {x y : Int32} (h : so N n x y = 1) : x ≠ y ∧ pf N n x y = true := by
  unfold so at h
  by_cases e : x = y
  · rw [if_pos e] at h; exact absurd h (by decide)
  · rw [if_neg e] at h
    refine ⟨e, ?_⟩
    split at h
    · assumption
    · split at h
      · exact absurd h (by decide)
      · exact absurd h (by decide)
theorem so_tr {N : nod} {n : Nat} (ho : okR (nR N n)) {x y z : Int32} (h1 : so N n x y = 1) (h2 : so N n y z = 1) : so N n x z = 1 := by
  have a := (so_1 h1).2
  have b := (so_1 h2).2
  have c := pf_tr ho a b
  unfold so
  by_cases e : x = z
  · subst e
    rw [pf_irr ho] at c
    cases c
  · rw [if_neg e, if_pos c]
section SAY
variable {N : nod} {c : Nat}
theorem say_fl (ho : okN N c) (u v : Nat → Int32) : ∀ n, n < c → say N v u n = fl (say N u v n) := by
  intro n
  induction n using Nat.strongRecOn with
  | _ n ih =>
    intro hn
    by_cases hk : nK N n < 6
    · rw [say_o hk, say_o hk]
      exact so_fl (ho.1 n hn) _ _
    · have hc := ho.2 n hn hk
      rw [say_t hk hc, say_t hk hc, ih _ hc.1 (by omega), ih _ hc.2 (by omega)]
      exact jn_fl _ _ _
theorem say_self (ho : okN N c) (u : Nat → Int32) : ∀ n, n < c → say N u u n = 3 := by
  intro n
  induction n using Nat.strongRecOn with
  | _ n ih =>
    intro hn
    by_cases hk : nK N n < 6
    · rw [say_o hk]; simp [so]
    · have hc := ho.2 n hn hk
      rw [say_t hk hc, ih _ hc.1 (by omega), ih _ hc.2 (by omega)]
      rcases jn_cases (nK N n) with h | h | h | h <;> rw [h] <;> decide
theorem say_3 (ho : okN N c) (u v : Nat → Int32) : ∀ n, n < c → say N u v n = 3 → ∀ w, say N u w n = say N v w n := by
  intro n
  induction n using Nat.strongRecOn with
  | _ n ih =>
    intro hn h w
    by_cases hk : nK N n < 6
    · rw [say_o hk] at h
      rw [say_o hk, say_o hk, so_3 h]
    · have hc := ho.2 n hn hk
      rw [say_t hk hc] at h
      obtain ⟨h1, h2⟩ := jn_same _ _ _ h
      rw [say_t hk hc, say_t hk hc, ih _ hc.1 (by omega) h1 w]
      by_cases h9 : nK N n = 9
      · rw [h9]
        simp [jn]
      · rw [ih _ hc.2 (by omega) (h2 h9) w]
theorem say_3' (ho : okN N c) (u v : Nat → Int32) {n : Nat} (hn : n < c) (h : say N u v n = 3) (w : Nat → Int32) : say N w u n = say N w v n := by
  rw [say_fl ho u w n hn, say_fl ho v w n hn, say_3 ho u v n hn h w]
theorem fl_2 {a : Fin 4} : fl a = 2 ↔ a = 1 := by revert a; decide
theorem fl_1 {a : Fin 4} : fl a = 1 ↔ a = 2 := by revert a; decide
theorem fl_3 {a : Fin 4} : fl a = 3 ↔ a = 3 := by revert a; decide
theorem say_tr (ho : okN N c) : ∀ n, n < c → ∀ u v w : Nat → Int32, say N u v n = 1 → say N v w n = 1 → say N u w n = 1 := by
  intro n
  induction n using Nat.strongRecOn with
  | _ n ih =>
    intro hn u v w h1 h2
    by_cases hk : nK N n < 6
    · rw [say_o hk] at h1 h2 ⊢
      exact so_tr (ho.1 n hn) h1 h2
    · have hc := ho.2 n hn hk
      rw [say_t hk hc] at h1 h2 ⊢
      have hl : nL N n < c := by omega
      have hr : nQ N n < c := by omega
      have tr2 : ∀ m, m < n → say N u v m = 2 → say N v w m = 2 → say N u w m = 2 := by
        intro m hm g1 g2
        have hmc : m < c := by omega
        have a1 : say N v u m = 1 := fl_2.mp (by rw [← say_fl ho v u m hmc]; exact g1)
        have a2 : say N w v m = 1 := fl_2.mp (by rw [← say_fl ho w v m hmc]; exact g2)
        have a3 := ih m hm hmc w v u a2 a1
        rw [say_fl ho w u m hmc, a3]
        decide
      refine jn_trans _ _ _ _ _ _ _ (ih _ hc.1 hl u v w) (tr2 _ hc.1) (fun g => ?_) (fun g => ?_) (ih _ hc.2 hr u v w) (fun g => ?_) (fun g => ?_) h1 h2
      · exact say_3 ho u v _ hl g w
      · exact (say_3' ho v w hl g u).symm
      · exact say_3 ho u v _ hr g w
      · exact (say_3' ho v w hr g u).symm
end SAY
