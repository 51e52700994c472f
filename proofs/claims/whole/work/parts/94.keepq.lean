/-! Questions; and what both answer. -/
theorem okb_th {cn co : Nat → Nat} {t t' U : Nat → Int32} : ∀ k, (∀ i, i < k → t' i = t i) → okb cn co t' U k = okb cn co t U k
  | 0, _ => rfl
  | k + 1, h => by
    unfold okb
    rw [okb_th k (fun i hi => h i (by omega)), h k (by omega)]
theorem pR_th {A : Nat → Nat → Int32} {T : Nat → Bool} {k : Nat} {cn co : Nat → Nat} {t t' : Nat → Int32} (h : ∀ i, i < k → t' i = t i) : pR A T k cn co t' = pR A T k cn co t := by
  funext r; unfold pR; rw [okb_th k h]
theorem pR_A {A A' : Nat → Nat → Int32} {T : Nat → Bool} {k : Nat} {cn co : Nat → Nat} {t : Nat → Int32} (h : A' 1 = A 1) : pR A' T k cn co t = pR A T k cn co t := by
  funext r; unfold pR rV; rw [h]
theorem uB_A {A A' : Nat → Nat → Int32} {T : Nat → Bool} {m k i : Nat} {cn co : Nat → Nat} {t : Nat → Int32} {N : nod} (h : A' 1 = A 1) : uB m A' T k cn co t N i = uB m A T k cn co t N i := by
  have er : rV A' = rV A := by funext r l; unfold rV; rw [h]
  unfold uB; rw [pR_A h, er]
section KQ
variable {nc al fl c m : Nat} {nu : Nat → Int32} {V : Nat → Nat → Int32} {cc : Nat} {on op th : Nat → Int32} {ac : Nat} {af ff : Nat → Int32} {qs : Nat → qst} {N : nod} {ed : Nat → Nat → Int32} {zs : Nat → Nat} {cs : Nat → Int32}
variable {F F' : Nat → Nat} {A A' : Nat → Nat → Int32} {T : Nat → Bool} {π : Nat → Nat} {cn co : Nat → Nat} {cq oq : Nat → Nat → Nat} {sn : Nat → Nat → Bool}
/-- what is best, by places, is what is best, by numbers -/
theorem rw_cur {s qc i c' : Nat} {a b : Nat → Nat} {t f' : Nat → Int32} {π' : Nat → Nat} (h : rwR c m nu V F A T π) (ho : okT N nc) (hi : i < nc) (hC : RC A T s qc a b t) (he : en c' π' (ub c (fun j => okb a b t (V j) qc) (bN N V i)) c) (hf : ∀ j, j < c' → f' j = nu (π' j)) : en c' (fun j => π (π' j)) (uB m A T qc a b t N i) m ∧ ∀ j, j < c' → f' j = nI (π (π' j)) :=
  ⟨en_tr h.2.2.2.2.1 he (ub_tr h.2.2.2.2.1 (rw_ps h hC) rw_PT (rw_B h ho hi)) (fun r _ q => pR_T (ub_T q)), fun j hj => (hf j hj).trans (h.2.2.2.2.2 _ (he.2.1 j hj).1).1⟩
theorem rw_curG {s qc i l c' : Nat} {a b : Nat → Nat} {t f' : Nat → Int32} {π' : Nat → Nat} (h : rwR c m nu V F A T π) (ho : okT N nc) (hi : i < nc) (hl : l < 4) (hC : RC A T s qc a b t) (he : en c' π' (ub c (fun j => okb a b t (V j) qc) (bG N V i l)) c) (hf : ∀ j, j < c' → f' j = nu (π' j)) : en c' (fun j => π (π' j)) (ub m (pR A T qc a b t) (bG N (rV A) i l)) m ∧ ∀ j, j < c' → f' j = nI (π (π' j)) :=
  ⟨en_tr h.2.2.2.2.1 he (ub_tr h.2.2.2.2.1 (rw_ps h hC) rw_PT (rw_G h ho hi hl)) (fun r _ q => pR_T (ub_T q)), fun j hj => (hf j hj).trans (h.2.2.2.2.2 _ (he.2.1 j hj).1).1⟩
theorem li_best {c' : Nat} {σ : Nat → Nat} {U : Nat → Bool} {f' g : Nat → Int32} (he : en c' σ U m) (hf : ∀ j, j < c' → f' j = nI (σ j)) (h24 : cnt U m ≤ 24) (hg : ∀ r, r < m → U r = true → g (cnt U r) = nI r) : liR 24 c' f' (cnt U m) g := by
  refine ⟨en_total he, by rw [← en_total he]; exact h24, fun j hj => ?_⟩
  have := hg (σ j) (he.2.1 j hj).1 (he.2.1 j hj).2
  rw [en_cnt he j hj] at this
  rw [this, hf j hj]
theorem cnt_ub {P : Nat → Bool} {B : Nat → Nat → Bool} (h : cnt P m ≤ 24) : cnt (ub m P B) m ≤ 24 := Nat.le_trans (cnt_mono m (fun r _ q => ub_T q)) h
/-- what a question holds, in the form that the class's methods want -/
theorem rel.hqs (h : rel nc al fl c m nu V cc on op th ac af ff qs N ed zs cs F A T π cn co cq oq sn) (hal : al ≤ 59999) : ∀ s nd qc qon qop qth c1 f1 c2 f2 se, s < 4 → qs s = (nd + 1, qc, qon, qop, qth, c1, f1, c2, f2, se) → se ≤ 60000 ∧ qc ≤ 4 ∧ (∀ i, i < qc → qon i = nI (cq s i) ∧ cq s i < 4) ∧ (∀ i, i < qc → qop i = nI (oq s i) ∧ oq s i < 6) ∧ (∀ i, i < c → ((fun i => okb (cq s) (oq s) (qH (qs s)) (V i) (qC (qs s))) i = true ↔ okC qc (cq s) (oq s) qth (V i))) ∧ nd < nc ∧ c1 ≤ 24 ∧ c2 ≤ 24 := by
  intro s nd qc qon qop qth c1 f1 c2 f2 se hs e
  obtain ⟨⟨a1, a2, a3, a4, a5, a6⟩, b⟩ := h.2.2.2.2.2 s hs
  rw [e] at a2 a3 a4 a5 b ⊢
  obtain ⟨b1, b2', b3, -, -, -⟩ := b (Nat.succ_ne_zero nd)
  have k5 := b2'.2.2.2.2
  exact ⟨by have : se ≤ al + 1 := a5; omega, b2'.2.2.2.1, fun i hi => ⟨(b3 i hi).1, (k5 i hi).2.1⟩, fun i hi => ⟨(b3 i hi).2, (k5 i hi).2.2.2.1⟩, fun i _ => okb_iff qc, a2, a3, a4⟩
/-- what keeping up makes of a question's current answer -/
theorem rel.cur {s nd qc c1 c2 se c1' : Nat} {qon qop qth f1 f2 f1' : Nat → Int32} (h : rel nc al fl c m nu V cc on op th ac af ff qs N ed zs cs F A T π cn co cq oq sn) (hs : s < 4) (hq : qs s = (nd + 1, qc, qon, qop, qth, c1, f1, c2, f2, se)) (hk : kU c ((fun s i => okb (cq s) (oq s) (qH (qs s)) (V i) (qC (qs s))) s) (bN N V nd) nu se al c1 f1 c1' f1') : ∃ σ, en c1' σ (uB m A T qc (cq s) (oq s) qth N nd) m ∧ ∀ j, j < c1' → f1' j = nI (σ j) := by
  obtain ⟨⟨a1, a2, a3, a4, a5, a6⟩, b⟩ := h.2.2.2.2.2 s hs
  rw [hq] at a2 a3 a4 a5 b
  have hk' : kU c (fun i => okb (cq s) (oq s) qth (V i) qc) (bN N V nd) nu se al c1 f1 c1' f1' := by
    have e : (fun i => okb (cq s) (oq s) (qH (qs s)) (V i) (qC (qs s))) = fun i => okb (cq s) (oq s) qth (V i) qc := by rw [hq]
    rw [← e]; exact hk
  obtain ⟨b1, b2', b3, b4, b5, b6⟩ := b (Nat.succ_ne_zero nd)
  rcases hk' with ⟨e1, e2, e3⟩ | ⟨π', p1, p2⟩
  · subst e2; subst e3; exact b6 e1
  · obtain ⟨w1, w2⟩ := rw_cur h.1 h.2.1.okT a2 b2' p1 p2
    exact ⟨_, w1, w2⟩
/-- one question alters -/
theorem rel.que {s : Nat} {q' : qst} {cn' co' : Nat → Nat} {sn' : Nat → Bool} (h : rel nc al fl c m nu V cc on op th ac af ff qs N ed zs cs F A T π cn co cq oq sn) (hs : s < 4) (hq : qsR s m nc al q' N A' T cn' co' sn') (ha : ∀ a, ¬ (10 ≤ a ∧ a ≤ 18) → a ≠ 9 → A' a = A a) (hA : ∀ t, t ≤ 4 → t ≠ s → A' 10 t = A 10 t ∧ ∀ i, i < 4 → A' 11 (4 * t + i) = A 11 (4 * t + i) ∧ A' 12 (4 * t + i) = A 12 (4 * t + i) ∧ A' 13 (4 * t + i) = A 13 (4 * t + i)) (h14 : ∀ t, t < 4 → t ≠ s → A' 14 t = A 14 t ∧ A' 15 t = A 15 t ∧ ∀ v, v < 120 → A' 16 (120 * t + v) = A 16 (120 * t + v)) (h1 : F' 1 = F 1) (h2 : F' 2 = F 2) (h3 : F' 3 = F 3) (h5 : F' 5 = F 5) : rel nc al fl c m nu V cc on op th ac af ff (uq qs s q') N ed zs cs F' A' T π cn co (u1 cq s cn') (u1 oq s co') (u1 sn s sn') := by
  obtain ⟨r1, r2, r3, r4, r5, r6⟩ := h
  have h0 : ∀ r, r < 120 → A' 0 r = b2 (T r) := fun r hr => by rw [ha 0 (by decide) (by decide)]; exact r1.2.2.2.1 r hr
  refine ⟨r1.ext h1 (ha 0 (by decide) (by decide)) (ha 1 (by decide) (by decide)), r2.ext h2 (fun a q1 q2 => ha a (by omega) (by omega)), ⟨r3.1.ext h0 (hA 4 (by decide) (by omega)).1 (hA 4 (by decide) (by omega)).2, r3.2⟩, ?_, ?_, fun t ht => ?_⟩
  · rw [h3, ha 19 (by decide) (by decide)]; exact r4
  · rw [h5, ha 26 (by decide) (by decide)]; exact r5
  · by_cases e : t = s
    · subst e; rw [uq_s, u1_s, u1_s, u1_s]; exact hq
    · rw [show uq qs s q' t = qs t from if_neg e, u1_n e, u1_n e, u1_n e]
      exact (r6 t ht).ext (h14 t ht e).1 (h14 t ht e).2.1 (h14 t ht e).2.2 h0 (hA t (by omega) e).1 (hA t (by omega) e).2 (Nat.le_refl _) (Nat.le_refl _) r1.2.1 (Nat.le_refl _) (fun _ => ⟨rfl, rfl, ha 1 (by decide) (by decide), fun _ _ _ _ => rfl⟩)
theorem u1_self {α : Type} {f : Nat → α} {i : Nat} : u1 f i (f i) = f := by
  funext j; unfold u1; split
  · rename_i e; rw [e]
  · rfl
/-- saved: the class keeps up, the reference looks -/
theorem kp_saved {s nd qc c1 c2 se c1' : Nat} {qon qop qth f1 f2 f1' : Nat → Int32} {σ : Nat → Nat} (h : rel nc al fl c m nu V cc on op th ac af ff qs N ed zs cs F A T π cn co cq oq sn) (hs : s < 4) (hq : qs s = (nd + 1, qc, qon, qop, qth, c1, f1, c2, f2, se)) (h1 : en c1' σ (uB m A T qc (cq s) (oq s) qth N nd) m) (h2 : ∀ j, j < c1' → f1' j = nI (σ j)) : rel nc al fl c m nu V cc on op th ac af ff (uq qs s (nd + 1, qc, qon, qop, qth, c1', f1', c2, f2, al + 1)) N ed zs cs F A T π cn co cq oq sn := by
  obtain ⟨⟨a1, a2, a3, a4, a5, a6⟩, b⟩ := h.2.2.2.2.2 s hs
  rw [hq] at a1 a2 a3 a4 a5 b
  obtain ⟨b1, b2', b3, b4, b5, b6⟩ := b (Nat.succ_ne_zero nd)
  have hc : c1' ≤ 24 := by
    rw [← en_total h1]; have := rw_24 (qc := qc) (a := cq s) (b := oq s) (t := qth) h.1; rw [h.1.1] at this; exact cnt_ub this
  have := h.que (F' := F) (A' := A) (q' := (nd + 1, qc, qon, qop, qth, c1', f1', c2, f2, al + 1)) (cn' := cq s) (co' := oq s) (sn' := sn s) hs ⟨⟨a1, a2, hc, a4, Nat.le_refl _, a6⟩, fun _ => ⟨b1, b2', b3, b4, b5, fun _ => ⟨σ, h1, h2⟩⟩⟩ (fun _ _ _ => rfl) (fun _ _ _ => ⟨rfl, fun _ _ => ⟨rfl, rfl, rfl⟩⟩) (fun _ _ _ => ⟨rfl, rfl, fun _ _ => rfl⟩) rfl rfl rfl rfl
  rw [u1_self, u1_self, u1_self] at this
  exact this
/-- read: both mark what is best now as read -/
theorem kp_read {s nd qc c1 c2 se c1' : Nat} {qon qop qth f1 f2 f1' f2' : Nat → Int32} {σ : Nat → Nat} (h : rel nc al fl c m nu V cc on op th ac af ff qs N ed zs cs F A T π cn co cq oq sn) (hs : s < 4) (hq : qs s = (nd + 1, qc, qon, qop, qth, c1, f1, c2, f2, se)) (h1 : en c1' σ (uB m A T qc (cq s) (oq s) qth N nd) m) (h2 : ∀ j, j < c1' → f1' j = nI (σ j)) (h3 : ∀ j, j < c1' → f2' j = f1' j) (hA : eA A A') (h16 : ∀ v, v < 120 → A' 16 (120 * s + v) = b2 (decide (v < m) && uB m A T qc (cq s) (oq s) qth N nd v)) (h16' : ∀ z, z < 120 * s ∨ 120 * s + 120 ≤ z → A' 16 z = A 16 z) : rel nc al fl c m nu V cc on op th ac af ff (uq qs s (nd + 1, qc, qon, qop, qth, c1', f1', c1', f2', al + 1)) N ed zs cs (uF F 0 0) A' T π cn co cq oq (u1 sn s (fun v => decide (v < m) && uB m A T qc (cq s) (oq s) qth N nd v)) := by
  obtain ⟨⟨a1, a2, a3, a4, a5, a6⟩, b⟩ := h.2.2.2.2.2 s hs
  rw [hq] at a1 a2 a3 a4 a5 b
  obtain ⟨b1, b2', b3, b4, b5, b6⟩ := b (Nat.succ_ne_zero nd)
  have hc : c1' ≤ 24 := by
    rw [← en_total h1]; have := rw_24 (qc := qc) (a := cq s) (b := oq s) (t := qth) h.1; rw [h.1.1] at this; exact cnt_ub this
  have ha : ∀ a, a ≠ 9 → a ≠ 17 → a ≠ 16 → A' a = A a := hA
  have g : ∀ t i, A' 11 (4 * t + i) = A 11 (4 * t + i) ∧ A' 12 (4 * t + i) = A 12 (4 * t + i) ∧ A' 13 (4 * t + i) = A 13 (4 * t + i) := fun t i => by rw [ha 11 (by decide) (by decide) (by decide), ha 12 (by decide) (by decide) (by decide), ha 13 (by decide) (by decide) (by decide)]; exact ⟨rfl, rfl, rfl⟩
  have g10 : A' 10 = A 10 := ha 10 (by decide) (by decide) (by decide)
  have := h.que (F' := uF F 0 0) (A' := A') (q' := (nd + 1, qc, qon, qop, qth, c1', f1', c1', f2', al + 1)) (cn' := cq s) (co' := oq s) (sn' := fun v => decide (v < m) && uB m A T qc (cq s) (oq s) qth N nd v) hs ⟨⟨by rw [ha 14 (by decide) (by decide) (by decide)]; exact a1, a2, hc, hc, Nat.le_refl _, h16⟩, fun _ => ⟨by rw [ha 15 (by decide) (by decide) (by decide)]; exact b1, b2'.ext (fun r hr => by rw [ha 0 (by decide) (by decide) (by decide)]; exact h.1.2.2.2.1 r hr) (by rw [g10]) (fun i _ => g s i), b3, ⟨σ, en_congr h1 (fun _ _ => rfl) (fun r hr => by show (decide (r < m) && _) = _; rw [decide_eq_true hr, Bool.true_and]), fun j hj => (h3 j hj).trans (h2 j hj)⟩, fun v hv _ => by show (decide (v < m) && _) = false; rw [decide_eq_false (by omega), Bool.false_and], fun _ => ⟨σ, by rw [uB_A (ha 1 (by decide) (by decide) (by decide))]; exact h1, h2⟩⟩⟩ (fun a q1 q2 => ha a q2 (by omega) (by omega)) (fun t _ _ => ⟨by rw [g10], fun i _ => g t i⟩) (fun t ht e => ⟨by rw [ha 14 (by decide) (by decide) (by decide)], by rw [ha 15 (by decide) (by decide) (by decide)], fun v hv => h16' _ (by omega)⟩) rfl rfl rfl rfl
  rw [u1_self, u1_self] at this
  exact this
/-- save -/
theorem kp_save {s i c1' : Nat} {on' op' th' f1' f2' : Nat → Int32} {σ : Nat → Nat} {A1 : Nat → Nat → Int32} (h : rel nc al fl c m nu V cc on op th ac af ff qs N ed zs cs F A T π cn co cq oq sn) (hs : s < 4) (hi : i < nc) (ho : ∀ j, j < cc → on' j = on j ∧ op' j = op j ∧ th' j = th j) (h1 : en c1' σ (uB m A T cc cn co th N i) m) (h2 : ∀ j, j < c1' → f1' j = nI (σ j)) (h3 : ∀ j, j < c1' → f2' j = f1' j) (hQ : qA A A1 s i) (hA : eA A1 A') (h16 : ∀ v, v < 120 → A' 16 (120 * s + v) = b2 (decide (v < m) && uB m A T cc cn co th N i v)) (h16' : ∀ z, z < 120 * s ∨ 120 * s + 120 ≤ z → A' 16 z = A1 16 z) : rel nc al fl c m nu V cc on op th ac af ff (uq qs s (i + 1, cc, on', op', th', c1', f1', c1', f2', al + 1)) N ed zs cs (uF F 0 0) A' T π cn co (u1 cq s cn) (u1 oq s co) (u1 sn s (fun v => decide (v < m) && uB m A T cc cn co th N i v)) := by
  obtain ⟨k0, k6⟩ := h.2.2.1
  have hRC := qA_RC k0 hQ hs
  have hc : c1' ≤ 24 := by
    rw [← en_total h1]; have := rw_24 (qc := cc) (a := cn) (b := co) (t := th) h.1; rw [h.1.1] at this; exact cnt_ub this
  obtain ⟨u0, u10, u11, u12, u13, u14, u15⟩ := hQ
  have ha1 : ∀ a, a ≠ 9 → a ≠ 17 → a ≠ 16 → A' a = A1 a := hA
  have ha : ∀ a, ¬ (10 ≤ a ∧ a ≤ 18) → a ≠ 9 → A' a = A a := fun a q1 q2 => (ha1 a q2 (by omega) (by omega)).trans (u0 a (by omega) (by omega) (by omega) (by omega) (by omega) (by omega))
  have g10 : A' 10 = A1 10 := ha1 10 (by decide) (by decide) (by decide)
  have g11 : A' 11 = A1 11 := ha1 11 (by decide) (by decide) (by decide)
  have g12 : A' 12 = A1 12 := ha1 12 (by decide) (by decide) (by decide)
  have g13 : A' 13 = A1 13 := ha1 13 (by decide) (by decide) (by decide)
  have g14 : A' 14 = A1 14 := ha1 14 (by decide) (by decide) (by decide)
  have g15 : A' 15 = A1 15 := ha1 15 (by decide) (by decide) (by decide)
  have h0 : ∀ r, r < 120 → A' 0 r = b2 (T r) := fun r hr => by rw [ha 0 (by decide) (by decide)]; exact h.1.2.2.2.1 r hr
  have eU : uB m A' T cc cn co th' N i = uB m A T cc cn co th N i := by
    rw [uB_A (ha 1 (by decide) (by decide))]; unfold uB; rw [pR_th (fun j hj => (ho j hj).2.2)]
  have hRC' : RC A' T s cc cn co th' := by
    obtain ⟨w1, w2, w3, w4, w5⟩ := hRC
    refine ⟨h0, w2, by rw [g10]; exact w3, w4, fun j hj => ?_⟩
    rw [g11, g12, g13, (ho j hj).2.2]; exact w5 j hj
  refine h.que (F' := uF F 0 0) (A' := A') hs ⟨⟨by rw [g14, u14, pk_us]; rfl, hi, hc, hc, Nat.le_refl _, h16⟩, fun _ => ⟨by rw [g15, u15, pk_us]; rfl, hRC', fun j hj => ⟨(ho j hj).1.trans (k6 j hj).1, (ho j hj).2.1.trans (k6 j hj).2⟩, ⟨σ, en_congr h1 (fun _ _ => rfl) (fun r hr => by show (decide (r < m) && _) = _; rw [decide_eq_true hr, Bool.true_and]), fun j hj => (h3 j hj).trans (h2 j hj)⟩, fun v hv _ => by show (decide (v < m) && _) = false; rw [decide_eq_false (by omega), Bool.false_and], fun _ => ⟨σ, by show en c1' σ (uB m A' T cc cn co th' N i) m; rw [eU]; exact h1, h2⟩⟩⟩ ha (fun t _ e => ⟨by rw [g10, u10, pk_un e], fun j hj => ⟨?_, ?_, ?_⟩⟩) (fun t ht e => ⟨by rw [g14, u14, pk_un e], by rw [g15, u15, pk_un e], fun v hv => ?_⟩) rfl rfl rfl rfl
  · rw [g11, u11, if_neg (by omega)]
  · rw [g12, u12, if_neg (by omega)]
  · rw [g13, u13, if_neg (by omega)]
  · rw [h16' _ (by omega), u0 16 (by decide) (by decide) (by decide) (by decide) (by decide) (by decide)]
/-! what both answer -/
theorem cnt_tt : ∀ k, cnt (fun _ => true) k = k
  | 0 => rfl
  | k + 1 => by rw [cnt_step, cnt_tt k]; rfl
theorem pk_list {f : Nat → Int32} {x r : Int32} {k : Nat} (hk : k ≤ 65535) (h : pkR k (fun _ => true) f x r) : (x = -1 → r = nI k) ∧ (x ≠ -1 → (∀ j, j < k → x ≠ nI j) → r = -1) ∧ ∀ j, j < k → x = nI j → r = f j := by
  rcases h with ⟨q, hq, -, hz, hr⟩ | ⟨hn, hr⟩
  · rw [cnt_tt] at hz
    refine ⟨fun e => absurd (hz.symm.trans e) (nI_nm (by omega)), fun _ g => absurd hz (g q hq), fun j hj e => ?_⟩
    have : q = j := (nI_eq (by omega) (by omega)).mp (hz.symm.trans e)
    subst this; exact hr
  · have hn' : ∀ j, j < k → x ≠ nI j := fun j hj => by have := hn j hj rfl; rw [cnt_tt] at this; exact this
    rw [cnt_tt] at hr
    refine ⟨fun e => by rw [hr, if_pos e], fun e _ => by rw [hr, if_neg e], fun j hj e => absurd e (hn' j hj)⟩
theorem en_not {a b : Nat} {σ ρ : Nat → Nat} {U W : Nat → Bool} {f g : Nat → Int32} {q : Nat} (hm : m ≤ 120) (h1 : en a σ U m) (h2 : en b ρ W m) (hf : f q = nI (σ q)) (hg : ∀ i, i < b → g i = nI (ρ i)) (hq : q < a) : decide (∀ i, i < b → g i ≠ f q) = !W (σ q) := by
  have b1 := (h1.2.1 q hq).1
  by_cases e : W (σ q) = true
  · obtain ⟨i, hi, ei⟩ := h2.2.2 _ b1 e
    rw [e]
    refine decide_eq_false (fun z => z i hi ?_)
    rw [hg i hi, hf, ei]
  · rw [Bool.not_eq_true] at e
    rw [e]
    refine decide_eq_true (fun i hi z => ?_)
    rw [hg i hi, hf] at z
    have b2 := (h2.2.1 i hi)
    rw [nI_eq (by omega) (by omega)] at z
    rw [z, e] at b2
    exact absurd b2.2 (by decide)
theorem sv_0 {c1 : Nat} {σ : Nat → Nat} {U s : Nat → Bool} {f1 : Nat → Int32} {z r r' : Int32} (hm : m ≤ 120) (h1 : en c1 σ U m) (hf : ∀ j, j < c1 → f1 j = nI (σ j)) (hp : pkR c1 (fun _ => true) f1 z r) (hr : pkR m (fun v => sW 0 (U v) (s v)) (fun v => nI v) z r') : r = r' :=
  pk_uq (by omega) (pk_cg (fun v _ => by show (U v && true) = sW 0 (U v) (s v); rw [Bool.and_true]; rfl) (pk_tr (W := fun _ => true) h1 hf (fun _ _ => rfl) hp)) hr
theorem sv_1 {c1 c2 : Nat} {σ ρ : Nat → Nat} {U s : Nat → Bool} {f1 f2 : Nat → Int32} {z r r' : Int32} (hm : m ≤ 120) (h1 : en c1 σ U m) (hf : ∀ j, j < c1 → f1 j = nI (σ j)) (h2 : en c2 ρ s m) (hf2 : ∀ j, j < c2 → f2 j = nI (ρ j)) (hp : pkR c1 (fun q => decide (∀ i, i < c2 → f2 i ≠ f1 q)) f1 z r) (hr : pkR m (fun v => sW 1 (U v) (s v)) (fun v => nI v) z r') : r = r' :=
  pk_uq (by omega) (pk_cg (fun v _ => by show (U v && !s v) = sW 1 (U v) (s v); rfl) (pk_tr (W := fun v => !s v) h1 hf (fun j hj => en_not hm h1 h2 (hf j hj) hf2 hj) hp)) hr
theorem sv_2 {c1 c2 : Nat} {σ ρ : Nat → Nat} {U s : Nat → Bool} {f1 f2 : Nat → Int32} {z r r' : Int32} (hm : m ≤ 120) (h1 : en c1 σ U m) (hf : ∀ j, j < c1 → f1 j = nI (σ j)) (h2 : en c2 ρ s m) (hf2 : ∀ j, j < c2 → f2 j = nI (ρ j)) (hp : pkR c2 (fun q => decide (∀ i, i < c1 → f1 i ≠ f2 q)) f2 z r) (hr : pkR m (fun v => sW 2 (U v) (s v)) (fun v => nI v) z r') : r = r' :=
  pk_uq (by omega) (pk_cg (fun v _ => by show (s v && !U v) = sW 2 (U v) (s v); rfl) (pk_tr (W := fun v => !U v) h2 hf2 (fun j hj => en_not hm h2 h1 (hf2 j hj) hf hj) hp)) hr
theorem lv_eq {i : Nat} (h : rel nc al fl c m nu V cc on op th ac af ff qs N ed zs cs F A T π cn co cq oq sn) (hi : i < nc) : ∀ j, j < c → lvP c (fun j => okb cn co th (V j) cc) (bN N V i) j = lvR A T cc cn co th N i (F 1) (π j) := fun j hj => by
  have hC := h.2.2.1.1
  have hps := rw_ps h.1 hC j hj
  unfold lvP lvR
  rw [h.1.1]
  by_cases e : okb cn co th (V j) cc = true
  · rw [if_pos ⟨hj, e⟩, if_pos (hps ▸ e)]
    exact lz_tr h.1.2.2.2.2.1 (rw_ps h.1 hC) rw_PT (rw_B h.1 h.2.1.okT hi) (okB_N h.2.1.2.2.2.1 hi) (okB_N h.2.1.2.2.2.1 hi) hj e
  · rw [if_neg (fun q => e q.2), if_neg (fun q => e (hps.trans q))]
theorem li_top {i t c' c'' : Nat} {f' g : Nat → Int32} (h : rel nc al fl c m nu V cc on op th ac af ff qs N ed zs cs F A T π cn co cq oq sn) (hi : i < nc) (hc : c' = min t (rk (lvP c (fun j => okb cn co th (V j) cc) (bN N V i)) c (c + 1) 0)) (hf : ∀ j, j < c' → ∃ u, u < c ∧ 1 ≤ lvP c (fun j => okb cn co th (V j) cc) (bN N V i) u ∧ rk (lvP c (fun j => okb cn co th (V j) cc) (bN N V i)) c (lvP c (fun j => okb cn co th (V j) cc) (bN N V i) u) u = j ∧ f' j = nu u)
    (hc' : c'' = min t (rk (lvR A T cc cn co th N i (F 1)) (F 1) 25 0)) (hg : ∀ j, j < c'' → ∃ u, u < F 1 ∧ 1 ≤ (lvR A T cc cn co th N i (F 1)) u ∧ rk (lvR A T cc cn co th N i (F 1)) (F 1) ((lvR A T cc cn co th N i (F 1)) u) u = j ∧ g j = nI u) : liR 24 c' f' c'' g := by
  have hlv := lv_eq h hi
  have hC := h.2.2.1.1
  have hen := h.1.2.2.2.2.1
  have e1 : F 1 = m := h.1.1
  have hc24 := h.1.2.2.1
  have hT : ∀ r, r < m → 1 ≤ lvR A T cc cn co th N i (F 1) r → T r = true := fun r _ q => by
    unfold lvR at q
    by_cases e : pR A T cc cn co th r = true
    · exact pR_T e
    · rw [if_neg e] at q; exact absurd q (by decide)
  have hle : ∀ j, j < c → lvP c (fun j => okb cn co th (V j) cc) (bN N V i) j ≤ c := fun j hj => by
    unfold lvP
    split
    · rename_i q
      exact Nat.le_trans (lz_le (okB_N h.2.1.2.2.2.1 hi) hj q.2) (cnt_le _ _)
    · exact Nat.zero_le _
  have hcc : c'' = c' := by
    rw [hc, hc', e1]
    have r1 := rk_all (c := c) (lv := lvP c (fun j => okb cn co th (V j) cc) (bN N V i)) (l := c + 1) (l' := 25) (fun u hu => by have := hle u hu; omega) (fun u hu => by have := hle u hu; omega)
    have r2 := rk_tr hen (fun j hj => hlv j hj) hT 25 0 0 (fun u _ => ⟨fun q => absurd q (Nat.not_lt_zero _), fun q => absurd q (Nat.not_lt_zero _)⟩)
    rw [r1, r2, e1]
  refine ⟨hcc, ?_, fun j hj => ?_⟩
  · have : rk (lvP c (fun j => okb cn co th (V j) cc) (bN N V i)) c (c + 1) 0 ≤ c := rk_le
    omega
  · obtain ⟨u, hu, l1, k1, fu⟩ := hf j hj
    obtain ⟨w, hw, l2, k2, gw⟩ := hg j (by omega)
    rw [e1] at hw
    have r2 := rk_tr hen (fun j hj => hlv j hj) hT (lvP c (fun j => okb cn co th (V j) cc) (bN N V i) u) u (π u) (fun a ha => (en_lt hen ha hu).symm)
    have e : w = π u := by
      refine rk_inj (c := m) (lv := lvR A T cc cn co th N i (F 1)) hw (hen.2.1 u hu).1 l2 (by rw [← hlv u hu]; exact l1) ?_
      rw [← hlv u hu, ← r2, k1]
      rw [e1] at k2 ⊢
      exact k2
    rw [gw, fu, e, (h.1.2.2.2.2.2 u hu).1]
theorem li_form {i : Nat} {ff' g : Nat → Int32} (h : rel nc al fl c m nu V cc on op th ac af ff qs N ed zs cs F A T π cn co cq oq sn) (hi : i < nc) (h1 : sg ff' 0 (rf N cs i)) (h2 : sg g 0 (rf N cs i)) : liR 160 (rf N cs i).length ff' (rf N cs i).length g := by
  obtain ⟨g1, g2, g3, g4, g5, g6⟩ := h.2.1
  have hz := (g5 i hi).1
  have hl := (gf_rf (cs := cs) g5 (fun n hn => (g3.1 n hn).2.1) (fun n hn q => g4.2 n hn q) i hi).2
  refine ⟨rfl, by omega, fun j hj => ?_⟩
  have e : (rf N cs i)[j]? = some ((rf N cs i)[j]) := List.getElem?_eq_getElem hj
  have q1 := sg_get _ _ _ _ h1 e
  have q2 := sg_get _ _ _ _ h2 e
  rw [Nat.zero_add] at q1 q2
  rw [q1, q2]
end KQ
