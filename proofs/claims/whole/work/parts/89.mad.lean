/-! What reducing makes, in the reference: rows of four numbers and a mask. -/
def mT (A : Nat → Nat → Int32) : mdt := (A 20, A 21, A 22, A 23)
def okI (A : Nat → Nat → Int32) (m : Nat) : Prop := okM (mT A) m ∧ ∀ i, i < m → (∃ kd, kd ≤ 9 ∧ A 20 i = nI kd) ∧ (A 20 i < nI 6 → A 24 i = nI 1 <<< (A 21 i &&& 31)) ∧ (¬ A 20 i < nI 6 → ∃ a b, a < i ∧ b < i ∧ A 22 i = nI a ∧ A 23 i = nI b ∧ A 24 i = A 24 a ||| A 24 b)
def mdE (A A' : Nat → Nat → Int32) (m m' : Nat) : Prop := (∀ a, ¬ (20 ≤ a ∧ a ≤ 24) → A' a = A a) ∧ (∀ a i, 20 ≤ a → a ≤ 24 → i < m → A' a i = A a i) ∧ m ≤ m' ∧ okI A' m'
theorem okI_0 {A : Nat → Nat → Int32} : okI A 0 := ⟨⟨by decide, fun i hi => absurd hi (Nat.not_lt_zero _), fun i j hi => absurd hi (Nat.not_lt_zero _)⟩, fun i hi => absurd hi (Nat.not_lt_zero _)⟩
theorem mdE.rf {A : Nat → Nat → Int32} {m : Nat} (h : okI A m) : mdE A A m m := ⟨fun _ _ => rfl, fun _ _ _ _ _ => rfl, Nat.le_refl _, h⟩
theorem mdE.tr {A A1 A2 : Nat → Nat → Int32} {m m1 m2 : Nat} (h : mdE A A1 m m1) (h' : mdE A1 A2 m1 m2) : mdE A A2 m m2 :=
  ⟨fun a ha => (h'.1 a ha).trans (h.1 a ha), fun a i h1 h2 hi => (h'.2.1 a i h1 h2 (by have := h.2.2.1; omega)).trans (h.2.1 a i h1 h2 hi), by have := h.2.2.1; have := h'.2.2.1; omega, h'.2.2.2⟩
theorem mdE.fm {A A' : Nat → Nat → Int32} {m m' : Nat} (h : mdE A A' m m') (hI : okI A m) : ∀ i, i < m → fm (mT A') i = fm (mT A) i :=
  fm_keep hI.1 (fun i hi => ⟨h.2.1 20 i (by decide) (by decide) hi, h.2.1 21 i (by decide) (by decide) hi, h.2.1 22 i (by decide) (by decide) hi, h.2.1 23 i (by decide) (by decide) hi⟩)
/-- four numbers that may be placed -/
def okQ (m kd : Nat) (c a b : Int32) : Prop := kd ≤ 9 ∧ ((kd < 6 ∧ (kd ≠ 3 → b = nI 0) ∧ (kd < 2 → a = nI 0)) ∨ (6 ≤ kd ∧ c = -1 ∧ ∃ a' b', a = nI a' ∧ b = nI b' ∧ a' < m ∧ b' < m ∧ (kd = 9 → a' = b')))
theorem nI_k9 {kd : Nat} (h : kd ≤ 9) : (nI kd = nI 9 ↔ kd = 9) ∧ (nI 5 < nI kd ↔ 5 < kd) ∧ (nI kd = nI 3 ↔ kd = 3) ∧ (nI 1 < nI kd ↔ 1 < kd) ∧ (nI kd < nI 6 ↔ kd < 6) :=
  ⟨nI_eq (by omega) (by omega), nI_ltI (by omega) (by omega), nI_eq (by omega) (by omega), nI_ltI (by omega) (by omega), nI_ltI (by omega) (by omega)⟩
section MAD
variable {A A' : Nat → Nat → Int32} {m : Nat}
/-- one row more -/
theorem okI_new {kd : Nat} {c a b v : Int32} (hI : okI A m) (hm : m < 100) (hq : okQ m kd c a b) (hno : ∀ i, i < m → ¬ (A 20 i = nI kd ∧ A 21 i = c ∧ A 22 i = a ∧ A 23 i = b)) (h1 : nI kd < nI 6 → v = nI 1 <<< (c &&& 31)) (h2 : ¬ nI kd < nI 6 → ∃ a' b', a = nI a' ∧ b = nI b' ∧ a' < m ∧ b' < m ∧ v = A 24 a' ||| A 24 b')
    (e0 : ∀ z, ¬ (20 ≤ z ∧ z ≤ 24) → A' z = A z) (e20 : A' 20 = upd (A 20) m (nI kd)) (e21 : A' 21 = upd (A 21) m c) (e22 : A' 22 = upd (A 22) m a) (e23 : A' 23 = upd (A 23) m b) (e24 : A' 24 = upd (A 24) m v) : mdE A A' m (m + 1) := by
  obtain ⟨hk9, hq⟩ := hq
  obtain ⟨n9, n5, n3, n1, n6⟩ := nI_k9 hk9
  have keep : ∀ z i, 20 ≤ z → z ≤ 24 → i < m → A' z i = A z i := fun z i z1 z2 hi => by
    obtain rfl | rfl | rfl | rfl | rfl : z = 20 ∨ z = 21 ∨ z = 22 ∨ z = 23 ∨ z = 24 := by omega
    · rw [e20, pk_un (by omega)]
    · rw [e21, pk_un (by omega)]
    · rw [e22, pk_un (by omega)]
    · rw [e23, pk_un (by omega)]
    · rw [e24, pk_un (by omega)]
  have k20 := fun i hi => keep 20 i (by decide) (by decide) hi
  have k21 := fun i hi => keep 21 i (by decide) (by decide) hi
  have k22 := fun i hi => keep 22 i (by decide) (by decide) hi
  have k23 := fun i hi => keep 23 i (by decide) (by decide) hi
  have k24 := fun i hi => keep 24 i (by decide) (by decide) hi
  have s20 : A' 20 m = nI kd := by rw [e20, pk_us]
  have s21 : A' 21 m = c := by rw [e21, pk_us]
  have s22 : A' 22 m = a := by rw [e22, pk_us]
  have s23 : A' 23 m = b := by rw [e23, pk_us]
  have s24 : A' 24 m = v := by rw [e24, pk_us]
  refine ⟨e0, keep, by omega, ⟨by omega, fun i hi => ?_, fun i j hi hj g1 g2 g3 g4 => ?_⟩, fun i hi => ?_⟩
  · by_cases e : i = m
    · subst e
      show (A' 20 i = nI 9 ∧ A' 21 i = -1 ∧ ∃ a, a < i ∧ A' 22 i = nI a ∧ A' 23 i = nI a) ∨ (¬ A' 20 i = nI 9 ∧ nI 5 < A' 20 i ∧ A' 21 i = -1 ∧ ∃ a b, a < i ∧ b < i ∧ A' 22 i = nI a ∧ A' 23 i = nI b) ∨ (¬ A' 20 i = nI 9 ∧ ¬ nI 5 < A' 20 i ∧ (¬ A' 20 i = nI 3 → A' 23 i = nI 0) ∧ (¬ nI 1 < A' 20 i → A' 22 i = nI 0))
      rw [s20, s21, s22, s23, n9, n5, n3, n1]
      rcases hq with ⟨q1, q2, q3⟩ | ⟨q1, q2, a', b', q3, q4, q5, q6, q7⟩
      · exact Or.inr (Or.inr ⟨by omega, by omega, fun z => q2 z, fun z => q3 (by omega)⟩)
      · by_cases e9 : kd = 9
        · exact Or.inl ⟨e9, q2, a', q5, q3, by rw [q4, q7 e9]⟩
        · exact Or.inr (Or.inl ⟨e9, by omega, q2, a', b', q5, q6, q3, q4⟩)
    · have h0 := hI.1.2.1 i (by omega)
      show (A' 20 i = nI 9 ∧ A' 21 i = -1 ∧ ∃ a, a < i ∧ A' 22 i = nI a ∧ A' 23 i = nI a) ∨ (¬ A' 20 i = nI 9 ∧ nI 5 < A' 20 i ∧ A' 21 i = -1 ∧ ∃ a b, a < i ∧ b < i ∧ A' 22 i = nI a ∧ A' 23 i = nI b) ∨ (¬ A' 20 i = nI 9 ∧ ¬ nI 5 < A' 20 i ∧ (¬ A' 20 i = nI 3 → A' 23 i = nI 0) ∧ (¬ nI 1 < A' 20 i → A' 22 i = nI 0))
      rw [k20 i (by omega), k21 i (by omega), k22 i (by omega), k23 i (by omega)]
      exact h0
  · have g1' : A' 20 i = A' 20 j := g1
    have g2' : A' 21 i = A' 21 j := g2
    have g3' : A' 22 i = A' 22 j := g3
    have g4' : A' 23 i = A' 23 j := g4
    by_cases ei : i = m
    · by_cases ej : j = m
      · rw [ei, ej]
      · exfalso
        rw [ei, s20, k20 j (by omega)] at g1'
        rw [ei, s21, k21 j (by omega)] at g2'
        rw [ei, s22, k22 j (by omega)] at g3'
        rw [ei, s23, k23 j (by omega)] at g4'
        exact hno j (by omega) ⟨g1'.symm, g2'.symm, g3'.symm, g4'.symm⟩
    · by_cases ej : j = m
      · exfalso
        rw [ej, s20, k20 i (by omega)] at g1'
        rw [ej, s21, k21 i (by omega)] at g2'
        rw [ej, s22, k22 i (by omega)] at g3'
        rw [ej, s23, k23 i (by omega)] at g4'
        exact hno i (by omega) ⟨g1', g2', g3', g4'⟩
      · rw [k20 i (by omega), k20 j (by omega)] at g1'
        rw [k21 i (by omega), k21 j (by omega)] at g2'
        rw [k22 i (by omega), k22 j (by omega)] at g3'
        rw [k23 i (by omega), k23 j (by omega)] at g4'
        exact hI.1.2.2 i j (by omega) (by omega) g1' g2' g3' g4'
  · by_cases e : i = m
    · subst e
      rw [s20, s21, s22, s23, s24]
      refine ⟨⟨kd, hk9, rfl⟩, h1, fun z => ?_⟩
      obtain ⟨a', b', p1, p2, p3, p4, p5⟩ := h2 z
      exact ⟨a', b', p3, p4, p1, p2, by rw [k24 a' p3, k24 b' p4]; exact p5⟩
    · obtain ⟨i1, i2, i3⟩ := hI.2 i (by omega)
      rw [k20 i (by omega), k21 i (by omega), k22 i (by omega), k23 i (by omega), k24 i (by omega)]
      refine ⟨i1, i2, fun z => ?_⟩
      obtain ⟨a', b', p1, p2, p3, p4, p5⟩ := i3 z
      exact ⟨a', b', p1, p2, p3, p4, by rw [k24 a' (by omega), k24 b' (by omega)]; exact p5⟩
theorem fq_o {r kd : Nat} (hI : okI A m) (hr : r < m) (e : A 20 r = nI kd) (hk : kd < 6) : fm (mT A) r = nI kd :: A 21 r :: (if kd = 3 then [A 22 r, A 23 r] else if 1 < kd then [A 22 r] else []) ∧ A 24 r = nI 1 <<< (A 21 r &&& 31) := by
  obtain ⟨n9, n5, n3, n1, n6⟩ := nI_k9 (kd := kd) (by omega)
  have e' : tK (mT A) r = nI kd := e
  refine ⟨?_, (hI.2 r hr).2.1 (by rw [e, n6]; exact hk)⟩
  rw [fm_o (by rw [e', n9]; omega) (by rw [e', n5]; omega), e']
  show nI kd :: A 21 r :: _ = _
  refine congrArg _ (congrArg _ ?_)
  show (if nI kd = nI 3 then [A 22 r, A 23 r] else if nI 1 < nI kd then [A 22 r] else []) = _
  by_cases c3 : kd = 3
  · rw [if_pos c3, if_pos (n3.mpr c3)]
  · rw [if_neg c3, if_neg (fun z => c3 (n3.mp z))]
    by_cases c1 : 1 < kd
    · rw [if_pos c1, if_pos (n1.mpr c1)]
    · rw [if_neg c1, if_neg (fun z => c1 (n1.mp z))]
theorem fq_t {r kd : Nat} (hI : okI A m) (hr : r < m) (e : A 20 r = nI kd) (h6 : 6 ≤ kd) (h9 : kd < 9) : ∃ a b, a < r ∧ b < r ∧ A 22 r = nI a ∧ A 23 r = nI b ∧ fm (mT A) r = nI kd :: (fm (mT A) a ++ fm (mT A) b) ∧ A 24 r = A 24 a ||| A 24 b := by
  obtain ⟨n9, n5, n3, n1, n6⟩ := nI_k9 (kd := kd) (by omega)
  have e' : tK (mT A) r = nI kd := e
  have hm := hI.1.1
  obtain ⟨a, b, ha, hb, ea, eb, ev⟩ := (hI.2 r hr).2.2 (by rw [e, n6]; omega)
  refine ⟨a, b, ha, hb, ea, eb, ?_, ev⟩
  rw [fm_t (by rw [e', n9]; omega) (by rw [e', n5]; omega) ea eb ha hb (by omega), e']
theorem fq_9 {r : Nat} (hI : okI A m) (hr : r < m) (e : A 20 r = nI 9) : ∃ a, a < r ∧ A 22 r = nI a ∧ A 23 r = nI a ∧ fm (mT A) r = nI 9 :: fm (mT A) a ∧ A 24 r = A 24 a := by
  have e' : tK (mT A) r = nI 9 := e
  have hm := hI.1.1
  obtain ⟨a, b, ha, hb, ea, eb, ev⟩ := (hI.2 r hr).2.2 (by rw [e]; decide +kernel)
  rcases hI.1.2.1 r hr with ⟨_, _, a', ha', e1, e2⟩ | ⟨h1, _⟩ | ⟨h1, _⟩
  · have e1' : A 22 r = nI a' := e1
    have e2' : A 23 r = nI a' := e2
    have q1 : a = a' := (nI_eq (by omega) (by omega)).mp (ea.symm.trans e1')
    have q2 : b = a' := (nI_eq (by omega) (by omega)).mp (eb.symm.trans e2')
    subst q1; subst q2
    exact ⟨b, ha, ea, eb, fm_9 e' ea ha (by omega), by rw [ev, Int32.or_self]⟩
  · exact absurd e' h1
  · exact absurd e' h1
/-- what dual makes -/
theorem du_a {m' p r kd : Nat} (hI : okI A m) (hp : p < m) (e : A 20 p = nI kd) (hk : kd < 2) (hE : mdE A A' m m') (hr : r < m') (e1 : A' 20 r = nI (1 - kd)) (e2 : A' 21 r = A 21 p) : fm (mT A') r = rd (fm (mT A) p) ∧ A' 24 r = A 24 p := by
  obtain ⟨f1, g1⟩ := fq_o hI hp e (by omega)
  obtain ⟨f2, g2⟩ := fq_o hE.2.2.2 hr e1 (by omega)
  rw [f1, f2, g1, g2, e2, if_neg (by omega), if_neg (by omega), if_neg (by omega), if_neg (by omega), rd_c]
  obtain rfl | rfl : kd = 0 ∨ kd = 1 := by omega
  · exact ⟨by rw [if_neg (by decide +kernel), if_pos rfl], rfl⟩
  · exact ⟨by rw [if_neg (by decide +kernel), if_neg (by decide +kernel), if_pos rfl], rfl⟩
theorem fm_hd {i kd : Nat} (hI : okI A m) (hi : i < m) (e : A 20 i = nI kd) : ∃ t, fm (mT A) i = nI kd :: t := by
  have hm := hI.1.1
  obtain ⟨t, ht⟩ := fm_head (hI.1.2.1 i hi) (by omega)
  exact ⟨t, by rw [ht]; exact congrArg (· :: t) e⟩
theorem du_b {m' p r kd : Nat} (hI : okI A m) (hp : p < m) (e : A 20 p = nI kd) (h2 : 2 ≤ kd) (h9 : kd < 9) (hE : mdE A A' m m') (hr : r < m') (e1 : A' 20 r = nI 9) (e2 : A' 22 r = nI p) : fm (mT A') r = rd (fm (mT A) p) ∧ A' 24 r = A 24 p := by
  have hm := hE.2.2.2.1.1
  have hm2 := hI.1.1
  obtain ⟨a, ha, ea, -, f1, g1⟩ := fq_9 hE.2.2.2 hr e1
  have q : a = p := (nI_eq (by omega) (by omega)).mp (ea.symm.trans e2)
  subst q
  obtain ⟨t, ht⟩ := fm_hd hI hp e
  obtain ⟨n9, -⟩ := nI_k9 (kd := kd) (by omega)
  rw [f1, g1, hE.fm hI a hp, ht, rd_c, if_neg (by rw [n9]; omega), if_neg (by rw [nI_eq (by omega) (by omega)]; omega), if_neg (by rw [nI_eq (by omega) (by omega)]; omega)]
  exact ⟨rfl, hE.2.1 24 a (by decide) (by decide) hp⟩
theorem du_9 {p a : Nat} (f : fm (mT A) p = nI 9 :: fm (mT A) a) : fm (mT A) a = rd (fm (mT A) p) := by rw [f, rd_c, if_pos rfl]
theorem or_sub {x y : Int32} (h : y &&& (x ^^^ (-1)) = nI 0) : x ||| y = x := by
  rw [q_zero] at h
  refine b_ext (fun i hi => ?_)
  have := h i hi
  rw [b_and, q_not x hi] at this
  rw [b_or]
  cases e : bt x i
  · rw [e] at this; simpa using this
  · rfl
/-- what reducedTerm makes -/
def tR (A A' : Nat → Nat → Int32) (m m' kd p q r : Nat) : Prop := mdE A A' m m' ∧ m' ≤ m + 2 ∧ r < m' ∧ fm (mT A') r = rt kd (A 24 p) (A 24 q) (fm (mT A) p) (fm (mT A) q) ∧ A' 24 r = if kd = 9 then A 24 p else A 24 p ||| A 24 q
theorem tR_9 {m' p q r : Nat} (hE : mdE A A' m m') (hm : m' ≤ m + 1) (hr : r < m') (hf : fm (mT A') r = rd (fm (mT A) p)) (hk : A' 24 r = A 24 p) : tR A A' m m' 9 p q r :=
  ⟨hE, by omega, hr, by rw [hf]; unfold rt; rw [if_pos rfl], by rw [if_pos rfl]; exact hk⟩
theorem tR_p {kd p q : Nat} (hI : okI A m) (h9 : kd ≠ 9) (hp : p < m) (h : p = q ∨ (kd = 7 ∧ A 24 q &&& (A 24 p ^^^ (-1)) = nI 0)) : tR A A m m kd p q p := by
  refine ⟨mdE.rf hI, by omega, hp, ?_, ?_⟩
  · unfold rt; rw [if_neg h9, if_pos (h.imp (fun e => by rw [e]) id)]
  · rw [if_neg h9]
    rcases h with e | ⟨-, e⟩
    · rw [← e, Int32.or_self]
    · rw [or_sub e]
theorem rt_no {kd p q : Nat} (hI : okI A m) (h9 : kd ≠ 9) (hp : p < m) (hq : q < m) (h : p ≠ q) (h7 : ¬ (kd = 7 ∧ A 24 q &&& (A 24 p ^^^ (-1)) = nI 0)) : rt kd (A 24 p) (A 24 q) (fm (mT A) p) (fm (mT A) q) = if kd ≠ 7 ∧ (fm (mT A) p).head? = some (nI 9) ∧ (fm (mT A) q).head? = some (nI 9) then nI 9 :: nI kd :: ((fm (mT A) p).tail ++ (fm (mT A) q).tail) else nI kd :: (fm (mT A) p ++ fm (mT A) q) := by
  unfold rt
  rw [if_neg h9, if_neg (fun z => z.elim (fun e => h (fm_inj hI.1 p hp q hq e)) h7)]
theorem tR_t {m' kd p q r : Nat} (hI : okI A m) (h6 : 6 ≤ kd) (h9 : kd < 9) (hp : p < m) (hq : q < m) (h : p ≠ q) (h7 : ¬ (kd = 7 ∧ A 24 q &&& (A 24 p ^^^ (-1)) = nI 0)) (hn : ¬ (kd ≠ 7 ∧ A 20 p = nI 9 ∧ A 20 q = nI 9)) (hE : mdE A A' m m') (hm : m' ≤ m + 1) (hr : r < m') (e1 : A' 20 r = nI kd) (e2 : A' 22 r = nI p) (e3 : A' 23 r = nI q) : tR A A' m m' kd p q r := by
  have hm1 := hE.2.2.2.1.1
  have hm2 := hI.1.1
  obtain ⟨a, b, ha, hb, ea, eb, f1, g1⟩ := fq_t hE.2.2.2 hr e1 h6 h9
  have q1 : a = p := (nI_eq (by omega) (by omega)).mp (ea.symm.trans e2)
  have q2 : b = q := (nI_eq (by omega) (by omega)).mp (eb.symm.trans e3)
  subst q1; subst q2
  refine ⟨hE, by omega, hr, ?_, ?_⟩
  · rw [rt_no hI (by omega) hp hq h h7, f1, hE.fm hI a hp, hE.fm hI b hq, if_neg]
    rintro ⟨c7, c1, c2⟩
    obtain ⟨⟨k1, hk1, x1⟩, -⟩ := hI.2 a hp
    obtain ⟨⟨k2, hk2, x2⟩, -⟩ := hI.2 b hq
    obtain ⟨t1, y1⟩ := fm_hd hI hp x1
    obtain ⟨t2, y2⟩ := fm_hd hI hq x2
    rw [y1] at c1; rw [y2] at c2
    exact hn ⟨c7, x1.trans (Option.some.inj c1), x2.trans (Option.some.inj c2)⟩
  · rw [if_neg (by omega), g1, hE.2.1 24 a (by decide) (by decide) hp, hE.2.1 24 b (by decide) (by decide) hq]
theorem tR_d {A1 : Nat → Nat → Int32} {m1 m' kd p q r1 r a b : Nat} (hI : okI A m) (h6 : 6 ≤ kd) (h9 : kd < 9) (hp : p < m) (hq : q < m) (h : p ≠ q) (c7 : kd ≠ 7) (ha : A 22 p = nI a) (hb : A 22 q = nI b) (kp : A 20 p = nI 9) (kq : A 20 q = nI 9) (la : a < 100) (lb : b < 100) (hE : mdE A A1 m m1) (hm1 : m1 ≤ m + 1) (hr1 : r1 < m1) (e1 : A1 20 r1 = nI kd) (e2 : A1 22 r1 = nI a) (e3 : A1 23 r1 = nI b) (hE' : mdE A1 A' m1 m') (hm' : m' ≤ m1 + 1) (hr : r < m') (hf : fm (mT A') r = rd (fm (mT A1) r1)) (hk : A' 24 r = A1 24 r1) : tR A A' m m' kd p q r := by
  have hmA := hE.2.2.2.1.1
  have hmB := hI.1.1
  obtain ⟨a1, b1, ha1, hb1, ea, eb, f1, g1⟩ := fq_t hE.2.2.2 hr1 e1 h6 h9
  have q1 : a1 = a := (nI_eq (by omega) (by omega)).mp (ea.symm.trans e2)
  have q2 : b1 = b := (nI_eq (by omega) (by omega)).mp (eb.symm.trans e3)
  subst q1; subst q2
  obtain ⟨a2, la2, ea2, -, fp, gp⟩ := fq_9 hI hp kp
  obtain ⟨b2, lb2, eb2, -, fq, gq⟩ := fq_9 hI hq kq
  have q3 : a2 = a1 := (nI_eq (by omega) (by omega)).mp (ea2.symm.trans ha)
  have q4 : b2 = b1 := (nI_eq (by omega) (by omega)).mp (eb2.symm.trans hb)
  subst q3; subst q4
  obtain ⟨n9, -⟩ := nI_k9 (kd := kd) (by omega)
  refine ⟨hE.tr hE', by omega, hr, ?_, ?_⟩
  · rw [rt_no hI (by omega) hp hq h (fun z => c7 z.1), hf, f1, rd_c, if_neg (by rw [n9]; omega), if_neg (by rw [nI_eq (by omega) (by omega)]; omega), if_neg (by rw [nI_eq (by omega) (by omega)]; omega), hE.fm hI a2 (by omega), hE.fm hI b2 (by omega), fp, fq, if_pos ⟨c7, rfl, rfl⟩]
    rfl
  · rw [if_neg (by omega), hk, g1, hE.2.1 24 a2 (by decide) (by decide) (by omega), hE.2.1 24 b2 (by decide) (by decide) (by omega), gp, gq]
/-- what the nodes became -/
def bR (A : Nat → Nat → Int32) (N : nod) (cs : Nat → Int32) (n m : Nat) : Prop := ∀ j, j < n → ∃ r, r < m ∧ A 25 j = nI r ∧ fm (mT A) r = rf N cs j ∧ A 24 r = cs j
theorem bR_step {N : nod} {cs : Nat → Int32} {n m' r : Nat} (hI : okI A m) (hb : bR A N cs n m) (hE : mdE A A' m m') (hr : r < m') (hf : fm (mT A') r = rf N cs n) (hk : A' 24 r = cs n) : bR (uA A' 25 n (nI r)) N cs (n + 1) m' := by
  intro j hj
  have eT : mT (uA A' 25 n (nI r)) = mT A' := rfl
  by_cases e : j = n
  · subst e
    exact ⟨r, hr, show upd (A' 25) j (nI r) j = nI r from pk_us, by rw [eT]; exact hf, hk⟩
  · obtain ⟨r0, h0, h1, h2, h3⟩ := hb j (by omega)
    refine ⟨r0, by have := hE.2.2.1; omega, ?_, ?_, ?_⟩
    · show upd (A' 25) n (nI r) j = nI r0
      rw [pk_un e, hE.1 25 (by decide)]; exact h1
    · rw [eT, hE.fm hI r0 h0]; exact h2
    · show A' 24 r0 = cs j
      rw [hE.2.1 24 r0 (by decide) (by decide) h0]; exact h3
theorem ro_fm {N : nod} {i r : Nat} (hI : okI A' m) (hr : r < m) (hk : nK N i < 6) (e1 : A' 20 r = nI (nK N i)) (e2 : A' 21 r = nI (nC N i)) (e3 : A' 22 r = qa N i) (e4 : A' 23 r = qb N i) : fm (mT A') r = ro N i ∧ A' 24 r = nI 1 <<< (nI (nC N i) &&& 31) := by
  obtain ⟨f1, g1⟩ := fq_o hI hr e1 hk
  rw [f1, g1, e2, e3, e4]
  refine ⟨?_, rfl⟩
  unfold ro qa qb
  refine congrArg _ (congrArg _ ?_)
  obtain e | e | e | e | e | e : nK N i = 0 ∨ nK N i = 1 ∨ nK N i = 2 ∨ nK N i = 3 ∨ nK N i = 4 ∨ nK N i = 5 := by omega
  all_goals (rw [e]; rfl)
theorem qo_ok {N : nod} {i : Nat} (hk : nK N i < 6) : okQ m (nK N i) (nI (nC N i)) (qa N i) (qb N i) := by
  refine ⟨by omega, Or.inl ⟨hk, fun e => if_neg e, fun e => ?_⟩⟩
  unfold qa
  rw [if_neg (by omega), if_neg (by omega)]
/-- what waits to be written -/
def ct (T : mdt) (f : Nat → Nat) : Nat → List Int32
  | 0 => []
  | w + 1 => fm T (f w) ++ ct T f w
theorem ct_cg {T : mdt} {f g : Nat → Nat} : ∀ w, (∀ j, j < w → f j = g j) → ct T f w = ct T g w
  | 0, _ => rfl
  | w + 1, h => by unfold ct; rw [h w (by omega), ct_cg w (fun j hj => h j (by omega))]
theorem sg_snoc {f : Nat → Int32} {x : Int32} : ∀ (L : List Int32) (s : Nat), sg f s L → sg (upd f (s + L.length) x) s (L ++ [x]) := fun L s h =>
  sg_app L [x] s (sg_ext h (fun y h1 h2 => pk_un (by omega))) ⟨pk_us, trivial⟩
end MAD
