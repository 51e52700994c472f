/-! Levels sought by rounds (the reference): P who passes, B who beats whom, l the levels so far. -/
section WEI
variable {P : Nat → Bool} {B : Nat → Nat → Bool} {R : Nat}
/-- nobody has more than its level -/
def wW (P : Nat → Bool) (B : Nat → Nat → Bool) (R : Nat) (l : Nat → Nat) : Prop := ∀ v, v < R → (P v = false → l v = 0) ∧ (P v = true → 1 ≤ l v ∧ l v ≤ lz P B R v)
/-- k rounds are done -/
def wK (P : Nat → Bool) (B : Nat → Nat → Bool) (R k : Nat) (l : Nat → Nat) : Prop := ∀ v, v < R → P v = true → min (lz P B R v) (k + 1) ≤ l v
/-- pairs before (a, b) are done in round k; mo: something was raised in it -/
def wI (P : Nat → Bool) (B : Nat → Nat → Bool) (R k a b : Nat) (l : Nat → Nat) (mo : Bool) : Prop :=
  wW P B R l ∧ wK P B R k l ∧ ∀ u v, u < R → v < R → (u < a ∨ (u = a ∧ v < b)) → P u = true → P v = true → B u v = true → min (lz P B R u) (k + 1) + 1 ≤ l v ∧ (mo = false → l u < l v)
theorem wI_0 {l : Nat → Nat} {k : Nat} (h1 : wW P B R l) (h2 : wK P B R k l) : wI P B R k 0 0 l false := ⟨h1, h2, fun u v _ _ h => by omega⟩
theorem wW_1 (h : okB P B R) : wW P B R (fun v => if P v = true then 1 else 0) := fun v hv => by
  refine ⟨fun hp => by simp [hp], fun hp => ?_⟩
  have := lz_pos h hv hp
  simp [hp]
  exact this
theorem wK_1 : wK P B R 0 (fun v => if P v = true then 1 else 0) := fun v hv hp => by
  simp [hp]
  omega
/-- nothing to raise at (a, b) -/
theorem wI_keep {k a b : Nat} {l : Nat → Nat} {mo : Bool} (h : wI P B R k a b l mo) (ha : a < R) (hb : b < R) (hn : ¬ (0 < l b ∧ l b ≤ l a ∧ B a b = true)) : wI P B R k a (b + 1) l mo := by
  obtain ⟨h1, h2, h3⟩ := h
  refine ⟨h1, h2, fun u v hu hv hd pu pv hB => ?_⟩
  by_cases e : u = a ∧ v = b
  · obtain ⟨rfl, rfl⟩ := e
    have hl := (h1 v hv).2 pv
    have hk := h2 u hu pu
    have : l u < l v := by
      refine Nat.lt_of_not_le (fun q => hn ⟨by omega, q, hB⟩)
    exact ⟨by omega, fun _ => this⟩
  · exact h3 u v hu hv (by omega) pu pv hB
/-- b is raised -/
theorem wI_raise {k a b : Nat} {l : Nat → Nat} {mo : Bool} (ho : okB P B R) (h : wI P B R k a b l mo) (ha : a < R) (hb : b < R) (h0a : 0 < l a) (h0 : 0 < l b) (hle : l b ≤ l a) (hB : B a b = true) : wI P B R k a (b + 1) (fun v => if v = b then l a + 1 else l v) true := by
  obtain ⟨h1, h2, h3⟩ := h
  have pa : P a = true := by
    cases e : P a with
    | true => rfl
    | false => have := (h1 a ha).1 e; omega
  have pb : P b = true := by
    cases e : P b with
    | true => rfl
    | false => have := (h1 b hb).1 e; omega
  have hab := lz_lt ho ha hb pa pb hB
  have hla := (h1 a ha).2 pa
  have up : ∀ v, l v ≤ (if v = b then l a + 1 else l v) := fun v => by
    by_cases e : v = b
    · subst e; rw [if_pos rfl]; omega
    · rw [if_neg e]; exact Nat.le_refl _
  refine ⟨fun v hv => ⟨fun hp => ?_, fun hp => ?_⟩, fun v hv hp => Nat.le_trans (h2 v hv hp) (up v), fun u v hu hv hd pu pv hB' => ⟨?_, fun e => by cases e⟩⟩
  · have e : v ≠ b := fun e => by rw [e, pb] at hp; cases hp
    show (if v = b then l a + 1 else l v) = 0
    rw [if_neg e]
    exact (h1 v hv).1 hp
  · show 1 ≤ (if v = b then l a + 1 else l v) ∧ (if v = b then l a + 1 else l v) ≤ lz P B R v
    by_cases e : v = b
    · subst e; rw [if_pos rfl]; omega
    · rw [if_neg e]; exact (h1 v hv).2 hp
  · by_cases e : u = a ∧ v = b
    · obtain ⟨rfl, rfl⟩ := e
      show _ ≤ (if v = v then l u + 1 else l v)
      rw [if_pos rfl]
      have := h2 u hu pu
      omega
    · exact Nat.le_trans (h3 u v hu hv (by omega) pu pv hB').1 (up v)
/-- the next a -/
theorem wI_next {k a b : Nat} {l : Nat → Nat} {mo : Bool} (h : wI P B R k a b l mo) (hb : R ≤ b ∨ (a < R ∧ l a = 0)) : wI P B R k (a + 1) 0 l mo := by
  obtain ⟨h1, h2, h3⟩ := h
  refine ⟨h1, h2, fun u v hu hv hd pu pv hB => ?_⟩
  by_cases e : u = a
  · subst e
    rcases hb with hb | ⟨ha, hb⟩
    · exact h3 u v hu hv (by omega) pu pv hB
    · have := (h1 u ha).2 pu; omega
  · exact h3 u v hu hv (by omega) pu pv hB
/-- a round is done -/
theorem wK_next {k a : Nat} {l : Nat → Nat} {mo : Bool} (ho : okB P B R) (h : wI P B R k a 0 l mo) (ha : R ≤ a) : wK P B R (k + 1) l := by
  obtain ⟨h1, h2, h3⟩ := h
  intro v hv pv
  have hl := (h1 v hv).2 pv
  have hk := h2 v hv pv
  by_cases e : lz P B R v ≤ k + 1
  · omega
  · obtain ⟨j, hj⟩ : ∃ j, lz P B R v = j + 2 := ⟨lz P B R v - 2, by omega⟩
    obtain ⟨u, hu, pu, hB, hlu⟩ := lz_below ho hv pv hj
    have := (h3 u v hu hv (by omega) pu pv hB).1
    omega
/-- nothing was raised: the levels stand -/
theorem wI_end {k a : Nat} {l : Nat → Nat} (ho : okB P B R) (h : wI P B R k a 0 l false) (ha : R ≤ a) : ∀ v, v < R → P v = true → l v = lz P B R v := by
  obtain ⟨h1, h2, h3⟩ := h
  intro v hv pv
  have a1 := (h1 v hv).2 pv
  have a2 := lz_low ho (f := l) (fun v hv pv => ((h1 v hv).2 pv).1) (fun u v hu hv pu pv hB => (h3 u v hu hv (by omega) pu pv hB).2 rfl) v hv pv
  omega
theorem wK_end {k : Nat} {l : Nat → Nat} (ho : okB P B R) (h1 : wW P B R l) (h : wK P B R k l) (hk : cnt P R ≤ k + 1) : ∀ v, v < R → P v = true → l v = lz P B R v := by
  intro v hv pv
  have a1 := (h1 v hv).2 pv
  have a2 := h v hv pv
  have a3 := lz_le ho hv pv
  omega
end WEI
