/-! The class's state and the reference's: one relation. -/
abbrev qN (q : qst) : Nat := q.1
abbrev qC (q : qst) : Nat := q.2.1
abbrev qO (q : qst) : Nat → Int32 := q.2.2.1
abbrev qP (q : qst) : Nat → Int32 := q.2.2.2.1
abbrev qH (q : qst) : Nat → Int32 := q.2.2.2.2.1
abbrev q1 (q : qst) : Nat := q.2.2.2.2.2.1
abbrev f1q (q : qst) : Nat → Int32 := q.2.2.2.2.2.2.1
abbrev q2 (q : qst) : Nat := q.2.2.2.2.2.2.2.1
abbrev f2q (q : qst) : Nat → Int32 := q.2.2.2.2.2.2.2.2.1
abbrev qE (q : qst) : Nat := q.2.2.2.2.2.2.2.2.2
/-- rows -/
def rwR (c m : Nat) (nu : Nat → Int32) (V : Nat → Nat → Int32) (F : Nat → Nat) (A : Nat → Nat → Int32) (T : Nat → Bool) (π : Nat → Nat) : Prop :=
  F 1 = m ∧ m ≤ 120 ∧ c ≤ 24 ∧ (∀ r, r < 120 → A 0 r = b2 (T r)) ∧ en c π T m ∧ ∀ j, j < c → nu j = nI (π j) ∧ c4 (V j) (rV A (π j))
/-- nodes -/
def ndR (nc : Nat) (N : nod) (ed : Nat → Nat → Int32) (zs : Nat → Nat) (cs : Nat → Int32) (F : Nat → Nat) (A : Nat → Nat → Int32) : Prop :=
  F 2 = nc ∧ nc ≤ 24 ∧ RS A nc N ed zs ∧ okN N nc ∧ okZ N zs nc ∧ ∀ i, i < nc → (nK N i < 6 → cs i = nI 1 <<< (nI (nC N i) &&& 31)) ∧ (¬ nK N i < 6 → cs i = cs (nL N i) ||| cs (nQ N i)) ∧ (nK N i = 9 → nQ N i = nL N i)
/-- conditions -/
def cdR (cc : Nat) (on op th : Nat → Int32) (A : Nat → Nat → Int32) (T : Nat → Bool) (cn co : Nat → Nat) : Prop :=
  RC A T 4 cc cn co th ∧ ∀ i, i < cc → on i = nI (cn i) ∧ op i = nI (co i)
/-- a list of numbers, of length c -/
def liR (b c : Nat) (f : Nat → Int32) (x : Nat) (g : Nat → Int32) : Prop := x = c ∧ c ≤ b ∧ ∀ j, j < c → g j = f j
/-- what is best among the rows -/
def uB (m : Nat) (A : Nat → Nat → Int32) (T : Nat → Bool) (qc : Nat) (cn co : Nat → Nat) (th : Nat → Int32) (N : nod) (i : Nat) : Nat → Bool := ub m (pR A T qc cn co th) (bN N (rV A) i)
/-- a question -/
def qsR (s m nc al : Nat) (q : qst) (N : nod) (A : Nat → Nat → Int32) (T : Nat → Bool) (cn co : Nat → Nat) (sn : Nat → Bool) : Prop :=
  (A 14 s = b2 (decide (qN q ≠ 0)) ∧ qN q ≤ nc ∧ q1 q ≤ 24 ∧ q2 q ≤ 24 ∧ qE q ≤ al + 1 ∧ ∀ v, v < 120 → A 16 (120 * s + v) = b2 (sn v)) ∧
  (qN q ≠ 0 → A 15 s = nI (qN q - 1) ∧ RC A T s (qC q) cn co (qH q) ∧ (∀ i, i < qC q → qO q i = nI (cn i) ∧ qP q i = nI (co i)) ∧
    (∃ ρ, en (q2 q) ρ sn m ∧ ∀ j, j < q2 q → f2q q j = nI (ρ j)) ∧ (∀ v, m ≤ v → v < 120 → sn v = false) ∧
    (qE q = al + 1 → ∃ σ, en (q1 q) σ (uB m A T (qC q) cn co (qH q) N (qN q - 1)) m ∧ ∀ j, j < q1 q → f1q q j = nI (σ j)))
/-- all of it -/
def rel (nc al fl c m : Nat) (nu : Nat → Int32) (V : Nat → Nat → Int32) (cc : Nat) (on op th : Nat → Int32) (ac : Nat) (af ff : Nat → Int32) (qs : Nat → qst) (N : nod) (ed : Nat → Nat → Int32) (zs : Nat → Nat) (cs : Nat → Int32)
    (F : Nat → Nat) (A : Nat → Nat → Int32) (T : Nat → Bool) (π : Nat → Nat) (cn co : Nat → Nat) (cq oq : Nat → Nat → Nat) (sn : Nat → Nat → Bool) : Prop :=
  rwR c m nu V F A T π ∧ ndR nc N ed zs cs F A ∧ cdR cc on op th A T cn co ∧ liR 24 ac af (F 3) (A 19) ∧ liR 160 fl ff (F 5) (A 26) ∧ ∀ s, s < 4 → qsR s m nc al (qs s) N A T (cq s) (oq s) (sn s)
theorem RC.ext {A A' : Nat → Nat → Int32} {T T' : Nat → Bool} {s cc : Nat} {cn co : Nat → Nat} {th : Nat → Int32} (h : RC A T s cc cn co th) (h0 : ∀ r, r < 120 → A' 0 r = b2 (T' r)) (h10 : A' 10 s = A 10 s) (hk : ∀ i, i < 4 → A' 11 (4 * s + i) = A 11 (4 * s + i) ∧ A' 12 (4 * s + i) = A 12 (4 * s + i) ∧ A' 13 (4 * s + i) = A 13 (4 * s + i)) : RC A' T' s cc cn co th := by
  obtain ⟨_, g1, g2, g3, g4⟩ := h
  refine ⟨h0, g1, h10.trans g2, g3, fun i hi => ?_⟩
  obtain ⟨k1, k2, k3⟩ := hk i (by omega)
  rw [k1, k2, k3]; exact g4 i hi
theorem qsR.ext {s m m' nc nc' al al' : Nat} {q : qst} {N N' : nod} {A A' : Nat → Nat → Int32} {T T' : Nat → Bool} {cn co : Nat → Nat} {sn : Nat → Bool} (h : qsR s m nc al q N A T cn co sn)
    (h14 : A' 14 s = A 14 s) (h15 : A' 15 s = A 15 s) (h16 : ∀ v, v < 120 → A' 16 (120 * s + v) = A 16 (120 * s + v)) (h0 : ∀ r, r < 120 → A' 0 r = b2 (T' r)) (h10 : A' 10 s = A 10 s) (hk : ∀ i, i < 4 → A' 11 (4 * s + i) = A 11 (4 * s + i) ∧ A' 12 (4 * s + i) = A 12 (4 * s + i) ∧ A' 13 (4 * s + i) = A 13 (4 * s + i))
    (hnc : nc ≤ nc') (hm : m ≤ m') (hm' : m' ≤ 120) (hal : al ≤ al') (hU : al' = al → m' = m ∧ T' = T ∧ A' 1 = A 1 ∧ ∀ i, i < nc → ∀ u v, say N' u v i = say N u v i) : qsR s m' nc' al' q N' A' T' cn co sn := by
  obtain ⟨⟨a1, a2, a3, a4, a5, a6⟩, b⟩ := h
  refine ⟨⟨h14.trans a1, by omega, a3, a4, by omega, fun v hv => (h16 v hv).trans (a6 v hv)⟩, fun hq => ?_⟩
  obtain ⟨b1, b2', b3, ⟨ρ, b4, b4'⟩, b5, b6⟩ := b hq
  refine ⟨h15.trans b1, b2'.ext h0 h10 hk, b3, ⟨ρ, ⟨b4.1, fun i hi => ⟨by have := (b4.2.1 i hi).1; omega, (b4.2.1 i hi).2⟩, fun r hr hs => ?_⟩, b4'⟩, fun v hv hv' => b5 v (by omega) hv', fun he => ?_⟩
  · by_cases e : r < m
    · exact b4.2.2 r e hs
    · exact absurd hs (by rw [b5 r (by omega) (by omega)]; decide)
  · obtain ⟨rfl, rfl, e1, e2⟩ := hU (by omega)
    obtain ⟨σ, s1, s2⟩ := b6 (by omega)
    refine ⟨σ, en_congr s1 (fun _ _ => rfl) (fun r hr => ?_), s2⟩
    have er : rV A' = rV A := by funext r l; unfold rV; rw [e1]
    have eb : bN N' (rV A) (qN q - 1) = bN N (rV A) (qN q - 1) := by
      funext y x; unfold bN; rw [e2 _ (by omega)]
    have ep : pR A' T' (qC q) cn co (qH q) = pR A T' (qC q) cn co (qH q) := by
      funext r; unfold pR; rw [er]
    unfold uB
    rw [er, eb, ep]
/-- memory of the reference that no answer shows -/
def scr (A A' : Nat → Nat → Int32) : Prop := ∀ a, a ≠ 9 → a ≠ 17 → a ≠ 18 → ¬ (20 ≤ a ∧ a ≤ 25) → a ≠ 27 → A' a = A a
theorem RN.ext {A A' : Nat → Nat → Int32} {nc : Nat} {N : nod} {ed : Nat → Nat → Int32} {zs : Nat → Nat} (h : RN A nc N ed zs) (h2 : A' 2 = A 2) (h3 : A' 3 = A 3) (h4 : A' 4 = A 4) (h5 : A' 5 = A 5) (h6 : A' 6 = A 6) (h7 : A' 7 = A 7) (h8 : A' 8 = A 8) : RN A' nc N ed zs := by
  unfold RN; rw [h2, h3, h4, h5, h6, h7, h8]; exact h
section REL
variable {nc al fl c m : Nat} {nu : Nat → Int32} {V : Nat → Nat → Int32} {cc : Nat} {on op th : Nat → Int32} {ac : Nat} {af ff : Nat → Int32} {qs : Nat → qst} {N : nod} {ed : Nat → Nat → Int32} {zs : Nat → Nat} {cs : Nat → Int32}
variable {F F' : Nat → Nat} {A A' : Nat → Nat → Int32} {T : Nat → Bool} {π : Nat → Nat} {cn co : Nat → Nat} {cq oq : Nat → Nat → Nat} {sn : Nat → Nat → Bool}
theorem rwR.ext (h : rwR c m nu V F A T π) (h1 : F' 1 = F 1) (a0 : A' 0 = A 0) (a1 : A' 1 = A 1) : rwR c m nu V F' A' T π := by
  obtain ⟨g1, g2, g3, g4, g5, g6⟩ := h
  refine ⟨h1.trans g1, g2, g3, fun r hr => by rw [a0]; exact g4 r hr, g5, fun j hj => ⟨(g6 j hj).1, fun l hl => ?_⟩⟩
  rw [(g6 j hj).2 l hl]; unfold rV; rw [a1]
theorem ndR.ext (h : ndR nc N ed zs cs F A) (h2 : F' 2 = F 2) (ha : ∀ a, 2 ≤ a → a ≤ 8 → A' a = A a) : ndR nc N ed zs cs F' A' := by
  obtain ⟨g1, g2, g3, g4, g5, g6⟩ := h
  exact ⟨h2.trans g1, g2, ⟨g3.1.ext (ha 2 (by decide) (by decide)) (ha 3 (by decide) (by decide)) (ha 4 (by decide) (by decide)) (ha 5 (by decide) (by decide)) (ha 6 (by decide) (by decide)) (ha 7 (by decide) (by decide)) (ha 8 (by decide) (by decide)), g3.2⟩, g4, g5, g6⟩
theorem cdR.ext (h : cdR cc on op th A T cn co) (a0 : A' 0 = A 0) (ha : ∀ a, 10 ≤ a → a ≤ 13 → A' a = A a) : cdR cc on op th A' T cn co :=
  ⟨h.1.ext (fun r hr => by rw [a0]; exact h.1.1 r hr) (by rw [ha 10 (by decide) (by decide)]) (fun i hi => by rw [ha 11 (by decide) (by decide), ha 12 (by decide) (by decide), ha 13 (by decide) (by decide)]; exact ⟨rfl, rfl, rfl⟩), h.2⟩
theorem rel.scr (h : rel nc al fl c m nu V cc on op th ac af ff qs N ed zs cs F A T π cn co cq oq sn) (hA : scr A A') (h1 : F' 1 = F 1) (h2 : F' 2 = F 2) (h3 : F' 3 = F 3) (h5 : F' 5 = F 5) : rel nc al fl c m nu V cc on op th ac af ff qs N ed zs cs F' A' T π cn co cq oq sn := by
  have e : ∀ a, a ≠ 9 → a ≠ 17 → a ≠ 18 → ¬ (20 ≤ a ∧ a ≤ 25) → a ≠ 27 → A' a = A a := hA
  obtain ⟨r1, r2, r3, r4, r5, r6⟩ := h
  refine ⟨r1.ext h1 (e 0 (by decide) (by decide) (by decide) (by decide) (by decide)) (e 1 (by decide) (by decide) (by decide) (by decide) (by decide)), r2.ext h2 (fun a q1 q2 => e a (by omega) (by omega) (by omega) (by omega) (by omega)), r3.ext (e 0 (by decide) (by decide) (by decide) (by decide) (by decide)) (fun a q1 q2 => e a (by omega) (by omega) (by omega) (by omega) (by omega)), ?_, ?_, fun s hs => ?_⟩
  · rw [h3, e 19 (by decide) (by decide) (by decide) (by decide) (by decide)]; exact r4
  · rw [h5, e 26 (by decide) (by decide) (by decide) (by decide) (by decide)]; exact r5
  · refine (r6 s hs).ext (by rw [e 14 (by decide) (by decide) (by decide) (by decide) (by decide)]) (by rw [e 15 (by decide) (by decide) (by decide) (by decide) (by decide)]) (fun v _ => by rw [e 16 (by decide) (by decide) (by decide) (by decide) (by decide)]) (fun r hr => by rw [e 0 (by decide) (by decide) (by decide) (by decide) (by decide)]; exact r1.2.2.2.1 r hr) (by rw [e 10 (by decide) (by decide) (by decide) (by decide) (by decide)]) (fun i _ => by rw [e 11 (by decide) (by decide) (by decide) (by decide) (by decide), e 12 (by decide) (by decide) (by decide) (by decide) (by decide), e 13 (by decide) (by decide) (by decide) (by decide) (by decide)]; exact ⟨rfl, rfl, rfl⟩) (Nat.le_refl _) (Nat.le_refl _) r1.2.1 (Nat.le_refl _) (fun _ => ⟨rfl, rfl, e 1 (by decide) (by decide) (by decide) (by decide) (by decide), fun _ _ _ _ => rfl⟩)
theorem sA_scr (h : sA A A') : scr A A' := fun a h9 _ _ _ _ => h a h9
theorem vA_scr (h : vA A A') : scr A A' := fun a h9 _ h18 _ _ => h a h9 h18
theorem mA_scr (h : mA A A') : scr A A' := fun a h9 h17 _ _ _ => h a h9 h17
/-- only who is told of it: thrown -/
theorem rel.thr {x : Nat} (h : rel nc al fl c m nu V cc on op th ac af ff qs N ed zs cs F A T π cn co cq oq sn) : rel nc al fl c m nu V cc on op th ac af ff qs N ed zs cs (uF F 0 x) A T π cn co cq oq sn :=
  h.scr (fun _ _ _ _ _ _ => rfl) rfl rfl rfl rfl
theorem ndR.okT (h : ndR nc N ed zs cs F A) : okT N nc := fun n hn => ⟨fun q => (((h.2.2.1.1 n hn).2.2.1) q).2, fun q => h.2.2.2.1.2 n hn q⟩
/-! places and rows -/
theorem okb_cg {cn co : Nat → Nat} {th U U' : Nat → Int32} (hU : c4 U U') : ∀ k, (∀ i, i < k → cn i < 4) → okb cn co th U k = okb cn co th U' k
  | 0, _ => rfl
  | k + 1, h => by
    unfold okb
    rw [okb_cg hU k (fun i hi => h i (by omega)), hU _ (h k (by omega))]
theorem rw_ps {s qc : Nat} {a b : Nat → Nat} {t : Nat → Int32} (h : rwR c m nu V F A T π) (hC : RC A T s qc a b t) : ∀ j, j < c → okb a b t (V j) qc = pR A T qc a b t (π j) := fun j hj => by
  unfold pR
  rw [(h.2.2.2.2.1.2.1 j hj).2, Bool.true_and]
  exact okb_cg (h.2.2.2.2.2 j hj).2 qc (fun i hi => (hC.2.2.2.2 i hi).2.1)
theorem rw_B {i : Nat} (h : rwR c m nu V F A T π) (ho : okT N nc) (hi : i < nc) : ∀ y j, y < c → j < c → bN N V i y j = bN N (rV A) i (π y) (π j) := fun y j hy hj => by
  unfold bN
  rw [say_cg ho (h.2.2.2.2.2 y hy).2 (h.2.2.2.2.2 j hj).2 i hi]
theorem rw_G {i l : Nat} (h : rwR c m nu V F A T π) (ho : okT N nc) (hi : i < nc) (hl : l < 4) : ∀ y j, y < c → j < c → bG N V i l y j = bG N (rV A) i l (π y) (π j) := fun y j hy hj => by
  unfold bG
  rw [say_cg ho (h.2.2.2.2.2 y hy).2 (h.2.2.2.2.2 j hj).2 i hi, (h.2.2.2.2.2 y hy).2 l hl, (h.2.2.2.2.2 j hj).2 l hl]
theorem rw_PT {qc : Nat} {a b : Nat → Nat} {t : Nat → Int32} : ∀ r, r < m → pR A T qc a b t r = true → T r = true := fun r _ q => pR_T q
theorem rw_24 {qc : Nat} {a b : Nat → Nat} {t : Nat → Int32} (h : rwR c m nu V F A T π) : cnt (pR A T qc a b t) (F 1) ≤ 24 := by
  have h1 : cnt (pR A T qc a b t) (F 1) ≤ cnt T (F 1) := cnt_mono _ (fun r _ q => pR_T q)
  have h2 : cnt T (F 1) = c := by rw [h.1]; exact en_total h.2.2.2.2.1
  have := h.2.2.1
  omega
/-- a row by its number: class and reference find the same -/
theorem rw_in {x : Int32} {r : Nat} (h : rwR c m nu V F A T π) (hr : r < F 1) (hT : T r = true) (e : x = nI r) : ∃ j, j < c ∧ nu j = x ∧ π j = r := by
  obtain ⟨j, hj, ej⟩ := h.2.2.2.2.1.2.2 r (by rw [← h.1]; exact hr) hT
  exact ⟨j, hj, by rw [(h.2.2.2.2.2 j hj).1, ej, e], ej⟩
theorem rw_out {x : Int32} {j : Nat} (h : rwR c m nu V F A T π) (hj : j < c) (e : nu j = x) : π j < F 1 ∧ T (π j) = true ∧ x = nI (π j) :=
  ⟨by rw [h.1]; exact (h.2.2.2.2.1.2.1 j hj).1, (h.2.2.2.2.1.2.1 j hj).2, by rw [← e]; exact (h.2.2.2.2.2 j hj).1⟩
theorem rw_un {x : Int32} {i j : Nat} (h : rwR c m nu V F A T π) (hi : i < c) (hj : j < c) (e1 : nu i = x) (e2 : x = nI (π j)) : i = j := by
  have h1 := (h.2.2.2.2.2 i hi).1
  have b1 := (h.2.2.2.2.1.2.1 i hi).1
  have b2 := (h.2.2.2.2.1.2.1 j hj).1
  have := h.2.1
  exact en_inj h.2.2.2.2.1 hi hj ((nI_eq (by omega) (by omega)).mp (h1.symm.trans (e1.trans e2)))
end REL
