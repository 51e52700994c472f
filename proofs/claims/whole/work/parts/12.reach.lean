/-! Graphs: what one comes to along edges, kept up (the class) and sought anew (the reference). e: edges, r: reach, as masks. -/
def okG (e r : Nat → Int32) : Prop := okR r ∧ (∀ x y, x < 10 → y < 10 → bt (e x) y = true → bt (r x) y = true) ∧ ∀ x y, x < 10 → y < 10 → bt (r x) y = true → bt (e x) y = true ∨ ∃ z, z < 10 ∧ bt (r x) z = true ∧ bt (e z) y = true
/-- values 0 .. v - 1 gone through once -/
def sv (e : Nat → Int32) (s : Int32) : Nat → Int32
  | 0 => s
  | v + 1 => if bt (sv e s v) v = true then sv e s v ||| e v else sv e s v
def rn (e : Nat → Int32) (s : Int32) : Nat → Int32
  | 0 => s
  | r + 1 => sv e (rn e s r) 10
theorem sv_mono {e : Nat → Int32} {s : Int32} {y : Nat} (h : bt s y = true) : ∀ v, bt (sv e s v) y = true
  | 0 => h
  | v + 1 => by
    have := sv_mono (e := e) h v
    simp only [sv]
    split
    · rw [b_or, this]; rfl
    · exact this
theorem sv_add {e : Nat → Int32} {s : Int32} {z y : Nat} (h : bt s z = true) (hy : bt (e z) y = true) : ∀ v, z < v → bt (sv e s v) y = true
  | 0, hv => absurd hv (Nat.not_lt_zero _)
  | v + 1, hv => by
    simp only [sv]
    by_cases hz : z = v
    · subst hz
      rw [if_pos (sv_mono h z), b_or, hy, Bool.or_true]
    · have := sv_add (e := e) h hy v (by omega)
      split
      · rw [b_or, this]; rfl
      · exact this
theorem rn_mono {e : Nat → Int32} {s : Int32} {y : Nat} (h : bt s y = true) : ∀ m, bt (rn e s m) y = true
  | 0 => h
  | m + 1 => sv_mono (rn_mono h m) 10
theorem sv_sound {e r : Nat → Int32} (hG : okG e r) {x : Nat} (hx : x < 10) {s : Int32} (hs : ∀ y, y < 10 → bt s y = true → bt (r x) y = true) : ∀ v, v ≤ 10 → ∀ y, y < 10 → bt (sv e s v) y = true → bt (r x) y = true
  | 0, _, y, hy, h => hs y hy h
  | v + 1, hv, y, hy, h => by
    simp only [sv] at h
    split at h
    · rename_i h1
      rw [b_or, Bool.or_eq_true] at h
      rcases h with h | h
      · exact sv_sound hG hx hs v (by omega) y hy h
      · have h2 := sv_sound hG hx hs v (by omega) v (by omega) h1
        exact hG.1.2 x v y hx (by omega) hy h2 (hG.2.1 v y (by omega) hy h)
    · exact sv_sound hG hx hs v (by omega) y hy h
theorem rn_sound {e r : Nat → Int32} (hG : okG e r) {x : Nat} (hx : x < 10) : ∀ m, ∀ y, y < 10 → bt (rn e (e x) m) y = true → bt (r x) y = true
  | 0, y, hy, h => hG.2.1 x y hx hy h
  | m + 1, y, hy, h => sv_sound hG hx (rn_sound hG hx m) 10 (Nat.le_refl _) y hy h
theorem rn_comp {e r : Nat → Int32} (hG : okG e r) {x : Nat} (hx : x < 10) : ∀ m, ∀ y, y < 10 → bt (r x) y = true → cnt (fun z => bt (r x) z && bt (r z) y) 10 ≤ m → bt (rn e (e x) m) y = true := by
  have step : ∀ y z, y < 10 → z < 10 → bt (r x) z = true → bt (e z) y = true → cnt (fun w => bt (r x) w && bt (r w) z) 10 < cnt (fun w => bt (r x) w && bt (r w) y) 10 := by
    intro y z hy hz h1 h2
    have h3 := hG.2.1 z y hz hy h2
    refine cnt_lt 10 (fun w hw h => ?_) z hz ?_ ?_
    · simp only [Bool.and_eq_true] at h ⊢
      exact ⟨h.1, hG.1.2 w z y hw hz hy h.2 h3⟩
    · simp only [h1, h3]; rfl
    · simp only [hG.1.1 z hz, Bool.and_false]
  intro m
  induction m with
  | zero =>
    intro y hy h hc
    rcases hG.2.2 x y hx hy h with h1 | ⟨z, hz, h1, h2⟩
    · exact h1
    · have := step y z hy hz h1 h2
      omega
  | succ m ih =>
    intro y hy h hc
    rcases hG.2.2 x y hx hy h with h1 | ⟨z, hz, h1, h2⟩
    · exact rn_mono h1 (m + 1)
    · have h3 := step y z hy hz h1 h2
      exact sv_add (ih z hz h1 (by omega)) h2 10 hz
/-- sought anew is as kept up -/
theorem rn_eq {e r : Nat → Int32} (hG : okG e r) {x y : Nat} (hx : x < 10) (hy : y < 10) : bt (rn e (e x) 10) y = bt (r x) y := by
  cases h : bt (r x) y with
  | true => exact rn_comp hG hx 10 y hy h (cnt_le _ 10)
  | false =>
    cases h2 : bt (rn e (e x) 10) y with
    | false => rfl
    | true =>
      rw [rn_sound hG hx 10 y hy h2] at h
      cases h
/-- one more edge -/
def eJ (e : Nat → Int32) (b w : Nat) : Nat → Int32 := upd e b (e b ||| nI 1 <<< (nI w &&& 31))
def rJ (r : Nat → Int32) (b w : Nat) : Nat → Int32 := fun v => if v = b ∨ bt (r v) b = true then r v ||| (nI 1 <<< (nI w &&& 31) ||| r w) else r v
theorem eJ_bt {e : Nat → Int32} {b w x y : Nat} (hw : w < 10) (hy : y < 10) : bt (eJ e b w x) y = (bt (e x) y || (decide (x = b) && decide (y = w))) := by
  unfold eJ
  by_cases h : x = b
  · subst h
    rw [pk_us, b_or, q_sh1 (by omega) (by omega)]
    simp
  · rw [pk_un h]
    simp [h]
theorem rJ_bt {r : Nat → Int32} {b w x y : Nat} (hw : w < 10) (hy : y < 10) : bt (rJ r b w x) y = (bt (r x) y || ((decide (x = b) || bt (r x) b) && (decide (y = w) || bt (r w) y))) := by
  unfold rJ
  by_cases h : x = b ∨ bt (r x) b = true
  · rw [if_pos h, b_or, b_or, q_sh1 (by omega) (by omega)]
    have : (decide (x = b) || bt (r x) b) = true := by simpa using h
    rw [this, Bool.true_and]
  · rw [if_neg h]
    have : (decide (x = b) || bt (r x) b) = false := by
      rw [Bool.eq_false_iff]
      intro q
      exact h (by simpa using q)
    rw [this, Bool.false_and, Bool.or_false]
theorem okG_join {e r : Nat → Int32} (hG : okG e r) {b w : Nat} (hb : b < 10) (hw : w < 10) (hne : b ≠ w) (hno : bt (r w) b = false) : okG (eJ e b w) (rJ r b w) := by
  have hR : ∀ x y, x < 10 → y < 10 → (bt (rJ r b w x) y = true ↔ bt (r x) y = true ∨ ((x = b ∨ bt (r x) b = true) ∧ (y = w ∨ bt (r w) y = true))) := by
    intro x y hx hy
    rw [rJ_bt hw hy]
    simp only [Bool.or_eq_true, Bool.and_eq_true, decide_eq_true_eq]
  have hE : ∀ x y, x < 10 → y < 10 → (bt (eJ e b w x) y = true ↔ bt (e x) y = true ∨ (x = b ∧ y = w)) := by
    intro x y hx hy
    rw [eJ_bt hw hy]
    simp only [Bool.or_eq_true, Bool.and_eq_true, decide_eq_true_eq]
  obtain ⟨⟨hi, ht⟩, hs, hl⟩ := hG
  have hno' : ¬ bt (r w) b = true := by rw [hno]; decide
  refine ⟨⟨fun x hx => ?_, fun x y z hx hy hz h1 h2 => ?_⟩, fun x y hx hy h => ?_, fun x y hx hy h => ?_⟩
  · cases hc : bt (rJ r b w x) x with
    | false => rfl
    | true =>
      exfalso
      rcases (hR x x hx hx).mp hc with h | ⟨h1, h2⟩
      · rw [hi x hx] at h; cases h
      · rcases h1 with rfl | h1
        · rcases h2 with rfl | h2
          · exact hne rfl
          · exact hno' h2
        · rcases h2 with rfl | h2
          · exact hno' h1
          · exact hno' (ht w x b hw hx hb h2 h1)
  · rw [hR x y hx hy] at h1
    rw [hR y z hy hz] at h2
    rw [hR x z hx hz]
    rcases h1 with h1 | ⟨a1, a2⟩
    · rcases h2 with h2 | ⟨c1, c2⟩
      · exact Or.inl (ht x y z hx hy hz h1 h2)
      · refine Or.inr ⟨?_, c2⟩
        rcases c1 with rfl | c1
        · exact Or.inr h1
        · exact Or.inr (ht x y b hx hy hb h1 c1)
    · rcases h2 with h2 | ⟨c1, c2⟩
      · refine Or.inr ⟨a1, ?_⟩
        rcases a2 with rfl | a2
        · exact Or.inr h2
        · exact Or.inr (ht w y z hw hy hz a2 h2)
      · exact Or.inr ⟨a1, c2⟩
  · rw [hE x y hx hy] at h
    rw [hR x y hx hy]
    rcases h with h | ⟨rfl, rfl⟩
    · exact Or.inl (hs x y hx hy h)
    · exact Or.inr ⟨Or.inl rfl, Or.inl rfl⟩
  · rw [hR x y hx hy] at h
    have mE : ∀ a c, a < 10 → c < 10 → bt (e a) c = true → bt (eJ e b w a) c = true := fun a c ha hc q => (hE a c ha hc).mpr (Or.inl q)
    have mR : ∀ a c, a < 10 → c < 10 → bt (r a) c = true → bt (rJ r b w a) c = true := fun a c ha hc q => (hR a c ha hc).mpr (Or.inl q)
    rcases h with h | ⟨a1, a2⟩
    · rcases hl x y hx hy h with h1 | ⟨z, hz, h1, h2⟩
      · exact Or.inl (mE x y hx hy h1)
      · exact Or.inr ⟨z, hz, mR x z hx hz h1, mE z y hz hy h2⟩
    · rcases a2 with rfl | a2
      · rcases a1 with rfl | a1
        · exact Or.inl ((hE _ _ hb hw).mpr (Or.inr ⟨rfl, rfl⟩))
        · exact Or.inr ⟨b, hb, mR x b hx hb a1, (hE _ _ hb hw).mpr (Or.inr ⟨rfl, rfl⟩)⟩
      · rcases hl w y hw hy a2 with h1 | ⟨z, hz, h1, h2⟩
        · exact Or.inr ⟨w, hw, (hR x w hx hw).mpr (Or.inr ⟨a1, Or.inl rfl⟩), mE w y hw hy h1⟩
        · exact Or.inr ⟨z, hz, (hR x z hx hz).mpr (Or.inr ⟨a1, Or.inr h1⟩), mE z y hz hy h2⟩
theorem okG_0 : okG (fun _ => nI 0) (fun _ => nI 0) := by
  refine ⟨⟨fun x hx => q_0 x, fun x y z _ _ _ h _ => ?_⟩, fun x y _ _ h => ?_, fun x y _ _ h => ?_⟩ <;> (rw [q_0] at h; cases h)
