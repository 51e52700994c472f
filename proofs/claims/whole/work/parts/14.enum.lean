/-! Numbers told one by one, rising: the first c of f are those below R of the kind S. -/
def en (c : Nat) (f : Nat → Nat) (S : Nat → Bool) (R : Nat) : Prop := (∀ i j, i < j → j < c → f i < f j) ∧ (∀ i, i < c → f i < R ∧ S (f i) = true) ∧ ∀ r, r < R → S r = true → ∃ i, i < c ∧ f i = r
theorem cnt_step (S : Nat → Bool) (n : Nat) : cnt S (n + 1) = cnt S n + (if S n = true then 1 else 0) := rfl
theorem cnt_up {S : Nat → Bool} {m n : Nat} (h : m ≤ n) : cnt S m ≤ cnt S n := by
  induction n with
  | zero => rw [Nat.le_zero.mp h]; exact Nat.le_refl _
  | succ n ih =>
    rw [cnt_step]
    by_cases e : m = n + 1
    · subst e; rw [cnt_step]; exact Nat.le_refl _
    · have := ih (by omega)
      omega
theorem cnt_in {S : Nat → Bool} {m n : Nat} (h : m < n) (hs : S m = true) : cnt S m < cnt S n := by
  have h1 : cnt S (m + 1) ≤ cnt S n := cnt_up h
  rw [cnt_step, if_pos hs] at h1
  omega
/-- nothing between: the count stays -/
theorem cnt_flat {S : Nat → Bool} {m n : Nat} (h : m ≤ n) (hs : ∀ r, m ≤ r → r < n → S r = false) : cnt S n = cnt S m := by
  induction n with
  | zero => rw [Nat.le_zero.mp h]
  | succ n ih =>
    by_cases e : m = n + 1
    · rw [e]
    · rw [cnt_step, hs n (by omega) (by omega), ih (by omega) (fun r h1 h2 => hs r h1 (by omega))]
      rfl
theorem en_cnt {c : Nat} {f : Nat → Nat} {S : Nat → Bool} {R : Nat} (h : en c f S R) : ∀ i, i < c → cnt S (f i) = i := by
  obtain ⟨h1, h2, h3⟩ := h
  intro i
  induction i with
  | zero =>
    intro hi
    have := cnt_flat (S := S) (m := 0) (n := f 0) (Nat.zero_le _) (fun r _ hr => by
      cases hs : S r with
      | false => rfl
      | true =>
        obtain ⟨j, hj, e⟩ := h3 r (by have := (h2 0 hi).1; omega) hs
        by_cases hj0 : j = 0
        · subst hj0; omega
        · have := h1 0 j (by omega) hj
          omega)
    rw [this]; rfl
  | succ i ih =>
    intro hi
    have a := ih (by omega)
    have b := h1 i (i + 1) (by omega) hi
    have e1 : cnt S (f i + 1) = i + 1 := by rw [cnt_step, if_pos (h2 i (by omega)).2, a]
    refine Eq.trans ?_ e1
    refine cnt_flat (by omega) (fun r g1 g2 => ?_)
    cases hs : S r with
    | false => rfl
    | true =>
      obtain ⟨j, hj, e⟩ := h3 r (by have := (h2 (i + 1) hi).1; omega) hs
      rcases Nat.lt_trichotomy j i with q | q | q
      · have := h1 j i q (by omega); omega
      · subst q; omega
      · by_cases q2 : j = i + 1
        · subst q2; omega
        · have := h1 (i + 1) j (by omega) hj; omega
theorem en_total {c : Nat} {f : Nat → Nat} {S : Nat → Bool} {R : Nat} (h : en c f S R) : cnt S R = c := by
  obtain ⟨h1, h2, h3⟩ := h
  by_cases hc : c = 0
  · subst hc
    have := cnt_flat (S := S) (m := 0) (n := R) (Nat.zero_le _) (fun r _ hr => by
      cases hs : S r with
      | false => rfl
      | true => obtain ⟨j, hj, _⟩ := h3 r hr hs; omega)
    rw [this]; rfl
  · have a := en_cnt ⟨h1, h2, h3⟩ (c - 1) (by omega)
    have b := h2 (c - 1) (by omega)
    have e1 : cnt S (f (c - 1) + 1) = c := by rw [cnt_step, if_pos b.2, a]; omega
    refine Eq.trans ?_ e1
    refine cnt_flat (by omega) (fun r g1 g2 => ?_)
    cases hs : S r with
    | false => rfl
    | true =>
      obtain ⟨j, hj, e⟩ := h3 r g2 hs
      by_cases q : j = c - 1
      · subst q; omega
      · have := h1 j (c - 1) (by omega) (by omega); omega
/-- there is but one such row of numbers -/
theorem en_uniq {c c' : Nat} {f f' : Nat → Nat} {S : Nat → Bool} {R : Nat} (h : en c f S R) (h' : en c' f' S R) : c = c' ∧ ∀ i, i < c → f i = f' i := by
  have e : c = c' := (en_total h).symm.trans (en_total h')
  subst e
  refine ⟨rfl, fun i hi => ?_⟩
  have a := en_cnt h i hi
  have b := en_cnt h' i hi
  rcases Nat.lt_trichotomy (f i) (f' i) with q | q | q
  · have := cnt_in q (h.2.1 i hi).2; omega
  · exact q
  · have := cnt_in q (h'.2.1 i hi).2; omega
/-- one more number at the end -/
theorem en_push {c : Nat} {f : Nat → Nat} {S : Nat → Bool} {R : Nat} (h : en c f S R) (hs : S R = true) {f' : Nat → Nat} (hf : ∀ i, i < c → f' i = f i) (hc : f' c = R) : en (c + 1) f' S (R + 1) := by
  obtain ⟨h1, h2, h3⟩ := h
  refine ⟨fun i j hij hj => ?_, fun i hi => ?_, fun r hr hsr => ?_⟩
  · by_cases q : j = c
    · subst q
      rw [hc, hf i hij]
      exact (h2 i hij).1
    · rw [hf i (by omega), hf j (by omega)]
      exact h1 i j hij (by omega)
  · by_cases q : i = c
    · subst q
      rw [hc]
      exact ⟨by omega, hs⟩
    · rw [hf i (by omega)]
      have := h2 i (by omega)
      exact ⟨by omega, this.2⟩
  · by_cases q : r = R
    · exact ⟨c, by omega, hc.trans q.symm⟩
    · obtain ⟨i, hi, e⟩ := h3 r (by omega) hsr
      exact ⟨i, by omega, (hf i hi).trans e⟩
theorem en_skip {c : Nat} {f : Nat → Nat} {S : Nat → Bool} {R : Nat} (h : en c f S R) (hs : S R = false) : en c f S (R + 1) := by
  obtain ⟨h1, h2, h3⟩ := h
  refine ⟨h1, fun i hi => ⟨by have := (h2 i hi).1; omega, (h2 i hi).2⟩, fun r hr hsr => ?_⟩
  by_cases q : r = R
  · subst q; rw [hs] at hsr; cases hsr
  · exact h3 r (by omega) hsr
theorem en_0 {f : Nat → Nat} {S : Nat → Bool} : en 0 f S 0 := ⟨fun i j _ hj => absurd hj (Nat.not_lt_zero _), fun i hi => absurd hi (Nat.not_lt_zero _), fun r hr => absurd hr (Nat.not_lt_zero _)⟩
theorem en_congr {c : Nat} {f f' : Nat → Nat} {S S' : Nat → Bool} {R : Nat} (h : en c f S R) (hf : ∀ i, i < c → f' i = f i) (hS : ∀ r, r < R → S' r = S r) : en c f' S' R := by
  obtain ⟨h1, h2, h3⟩ := h
  refine ⟨fun i j hij hj => by rw [hf i (by omega), hf j hj]; exact h1 i j hij hj, fun i hi => ?_, fun r hr hs => ?_⟩
  · have := h2 i hi
    rw [hf i hi, hS _ this.1]
    exact this
  · rw [hS r hr] at hs
    obtain ⟨i, hi, e⟩ := h3 r hr hs
    exact ⟨i, hi, (hf i hi).trans e⟩
/-- out of rising numbers those of a kind -/
theorem en_inj {c : Nat} {f : Nat → Nat} {S : Nat → Bool} {R : Nat} (h : en c f S R) {i j : Nat} (hi : i < c) (hj : j < c) (e : f i = f j) : i = j := by
  rcases Nat.lt_trichotomy i j with q | q | q
  · have := h.1 i j q hj; omega
  · exact q
  · have := h.1 j i q hi; omega
