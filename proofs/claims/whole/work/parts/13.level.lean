/-! Levels. P: who passes; B u v: u beats v; among the numbers below n. -/
def mx (f : Nat → Nat) : Nat → Nat
  | 0 => 0
  | n + 1 => max (mx f n) (f n)
theorem mx_le {f : Nat → Nat} {m : Nat} : ∀ n, mx f n ≤ m ↔ ∀ u, u < n → f u ≤ m
  | 0 => ⟨fun _ u hu => absurd hu (Nat.not_lt_zero _), fun _ => Nat.zero_le _⟩
  | n + 1 => by
    simp only [mx]
    have ih := mx_le (f := f) (m := m) n
    constructor
    · intro h u hu
      by_cases hun : u = n
      · subst hun; omega
      · exact ih.mp (by omega) u (by omega)
    · intro h
      have h1 := ih.mpr (fun u hu => h u (by omega))
      have h2 := h n (by omega)
      omega
theorem mx_congr {f g : Nat → Nat} : ∀ n, (∀ u, u < n → f u = g u) → mx f n = mx g n
  | 0, _ => rfl
  | n + 1, h => by
    simp only [mx]
    rw [mx_congr n (fun u hu => h u (by omega)), h n (by omega)]
def lzk (P : Nat → Bool) (B : Nat → Nat → Bool) (n : Nat) : Nat → Nat → Nat
  | 0, _ => 1
  | k + 1, v => 1 + mx (fun u => if P u = true ∧ B u v = true then lzk P B n k u else 0) n
def lz (P : Nat → Bool) (B : Nat → Nat → Bool) (n v : Nat) : Nat := lzk P B n n v
def okB (P : Nat → Bool) (B : Nat → Nat → Bool) (n : Nat) : Prop := (∀ u, u < n → P u = true → B u u = false) ∧ ∀ u v w, u < n → v < n → w < n → P u = true → P v = true → P w = true → B u v = true → B v w = true → B u w = true
section LV
variable {P : Nat → Bool} {B : Nat → Nat → Bool} {n : Nat}
theorem lz_pre (h : okB P B n) {u v : Nat} (hu : u < n) (hv : v < n) (pu : P u = true) (pv : P v = true) (hb : B u v = true) : cnt (fun w => P w && B w u) n < cnt (fun w => P w && B w v) n := by
  refine cnt_lt n (fun w hw q => ?_) u hu ?_ ?_
  · simp only [Bool.and_eq_true] at q ⊢
    exact ⟨q.1, h.2 w u v hw hu hv q.1 pu pv q.2 hb⟩
  · simp [pu, hb]
  · simp [h.1 u hu pu]
theorem lzk_st (h : okB P B n) : ∀ k v, v < n → P v = true → cnt (fun w => P w && B w v) n ≤ k → lzk P B n (k + 1) v = lzk P B n k v := by
  intro k
  induction k with
  | zero =>
    intro v hv pv hc
    show 1 + mx _ n = 1
    have : mx (fun u => if P u = true ∧ B u v = true then lzk P B n 0 u else 0) n ≤ 0 := by
      refine (mx_le n).mpr fun u hu => ?_
      split
      · rename_i q
        have h2 := cnt_lt (f := fun _ => false) (g := fun w => P w && B w v) n (fun i _ q => by cases q) u hu (by simp [q.1, q.2]) rfl
        omega
      · exact Nat.le_refl _
    rw [Nat.le_zero.mp this]
  | succ k ih =>
    intro v hv pv hc
    show 1 + mx _ n = 1 + mx _ n
    congr 1
    refine mx_congr n fun u hu => ?_
    by_cases q : P u = true ∧ B u v = true
    · rw [if_pos q, if_pos q]
      have := lz_pre h hu hv q.1 pv q.2
      exact ih u hu q.1 (by omega)
    · rw [if_neg q, if_neg q]
theorem lz_fix (h : okB P B n) {v : Nat} (hv : v < n) (pv : P v = true) : lz P B n v = 1 + mx (fun u => if P u = true ∧ B u v = true then lz P B n u else 0) n := by
  have := lzk_st h n v hv pv (cnt_le _ n)
  exact this.symm
/-- a level is at most m + 1 just if those that beat are at most m -/
theorem lz_iff (h : okB P B n) {v m : Nat} (hv : v < n) (pv : P v = true) : lz P B n v ≤ m + 1 ↔ ∀ u, u < n → P u = true → B u v = true → lz P B n u ≤ m := by
  rw [lz_fix h hv pv]
  have e := mx_le (f := fun u => if P u = true ∧ B u v = true then lz P B n u else 0) (m := m) n
  constructor
  · intro q u hu pu hb
    have := e.mp (by omega) u hu
    simpa [pu, hb] using this
  · intro q
    have := e.mpr (fun u hu => by
      by_cases q2 : P u = true ∧ B u v = true
      · simp only [q2]; exact q u hu q2.1 q2.2
      · rw [if_neg q2]; exact Nat.zero_le _)
    omega
theorem lz_pos (h : okB P B n) {v : Nat} (hv : v < n) (pv : P v = true) : 1 ≤ lz P B n v := by
  rw [lz_fix h hv pv]; omega
theorem lz_lt (h : okB P B n) {u v : Nat} (hu : u < n) (hv : v < n) (pu : P u = true) (pv : P v = true) (hb : B u v = true) : lz P B n u < lz P B n v := by
  have h1 := lz_pos h hv pv
  have h2 := (lz_iff h (m := lz P B n v - 1) hv pv).mp (by omega) u hu pu hb
  omega
theorem lzk_le (h : okB P B n) : ∀ k v, v < n → P v = true → lzk P B n k v ≤ 1 + cnt (fun w => P w && B w v) n := by
  intro k
  induction k with
  | zero => intro v _ _; show 1 ≤ _; omega
  | succ k ih =>
    intro v hv pv
    show 1 + mx _ n ≤ _
    have := (mx_le (f := fun u => if P u = true ∧ B u v = true then lzk P B n k u else 0) (m := cnt (fun w => P w && B w v) n) n).mpr (fun u hu => by
      by_cases q : P u = true ∧ B u v = true
      · simp only [q]
        have h1 := ih u hu q.1
        have h2 := lz_pre h hu hv q.1 pv q.2
        simp only [and_self, if_true]
        omega
      · rw [if_neg q]; exact Nat.zero_le _)
    omega
theorem lz_le (h : okB P B n) {v : Nat} (hv : v < n) (pv : P v = true) : lz P B n v ≤ cnt P n := by
  have h1 := lzk_le h n v hv pv
  have h2 := cnt_lt (f := fun w => P w && B w v) (g := P) n (fun i _ q => by simp only [Bool.and_eq_true] at q; exact q.1) v hv pv (by simp [h.1 v hv pv])
  show lzk P B n n v ≤ _
  omega
/-- there is one right below, if the level is not 1 -/
theorem lz_below (h : okB P B n) {v m : Nat} (hv : v < n) (pv : P v = true) (hm : lz P B n v = m + 2) : ∃ u, u < n ∧ P u = true ∧ B u v = true ∧ lz P B n u = m + 1 := by
  have h1 : ¬ lz P B n v ≤ m + 1 := by omega
  rw [lz_iff h hv pv] at h1
  simp only [Classical.not_forall] at h1
  obtain ⟨u, hu, pu, hb, hx⟩ := h1
  have := lz_lt h hu hv pu pv hb
  exact ⟨u, hu, pu, hb, by omega⟩
/-- what no beating pair breaks is at least the level -/
theorem lz_low (h : okB P B n) {f : Nat → Nat} (h1 : ∀ v, v < n → P v = true → 1 ≤ f v) (h2 : ∀ u v, u < n → v < n → P u = true → P v = true → B u v = true → f u < f v) : ∀ v, v < n → P v = true → lz P B n v ≤ f v := by
  have : ∀ k v, v < n → P v = true → lzk P B n k v ≤ f v := by
    intro k
    induction k with
    | zero => intro v hv pv; exact h1 v hv pv
    | succ k ih =>
      intro v hv pv
      show 1 + mx _ n ≤ _
      have h3 := h1 v hv pv
      have := (mx_le (f := fun u => if P u = true ∧ B u v = true then lzk P B n k u else 0) (m := f v - 1) n).mpr (fun u hu => by
        by_cases q : P u = true ∧ B u v = true
        · simp only [q]
          have g1 := ih u hu q.1
          have g2 := h2 u v hu hv q.1 pv q.2
          simp only [and_self, if_true]
          omega
        · rw [if_neg q]; exact Nat.zero_le _)
      omega
  exact fun v hv pv => this n v hv pv
end LV
