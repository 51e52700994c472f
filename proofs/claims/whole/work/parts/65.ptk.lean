/-! The class's picture: what stays, what changes. -/
/-- cells of a node -/
def wd (N : nod) (i : Nat) : Nat := if nK N i = 4 then 2 else if nK N i = 5 then 3 else 1
/-- where the nodes lie -/
def nsp (X : Nat) (N : nod) (ad : Nat → Nat) (nc sz : Nat) : Prop := X + 108 ≤ sz ∧ (∀ i, i < nc → X + 108 ≤ ad i ∧ ad i + wd N i ≤ sz) ∧ ∀ i j, i < j → j < nc → ad i + wd N i ≤ ad j
theorem nsp.up {X nc sz : Nat} {N : nod} {ad : Nat → Nat} (h : nsp X N ad nc sz) : nsp X N ad nc (sz + 1) := ⟨by have := h.1; omega, fun i hi => ⟨(h.2.1 i hi).1, by have := (h.2.1 i hi).2; omega⟩, h.2.2⟩
/-- what lies between the two objects and the nodes is as it was -/
def cF (X : Nat) (h h' : ev_h) : Prop := ∀ q, X + 78 ≤ q → q < X + 108 → h' q = h q
theorem cF.rf {X : Nat} {h : ev_h} : cF X h h := fun _ _ _ => rfl
theorem cF.tr {X : Nat} {h h1 h2 : ev_h} (a : cF X h h1) (b : cF X h1 h2) : cF X h h2 := fun q q1 q2 => (b q q1 q2).trans (a q q1 q2)
theorem cF.of {X a N : Nat} {h h' : ev_h} (f : fI a N h h') (hN : a + N ≤ X + 78) : cF X h h' := fun q q1 q2 => f q (by omega)
theorem cF.up {X a : Nat} {h : ev_h} {x : va_E} (hN : a < X + 78 ∨ X + 108 ≤ a) : cF X h (ev_up h a x) := fun q q1 q2 => ev_up_n (by omega)
section PTK
variable {E : ev_E} {X sz : Nat} {nc al fl c m cc ac : Nat} {nu on op th af ff : Nat → Int32} {V : Nat → Nat → Int32} {qs : Nat → qst} {N : nod} {ed : Nat → Nat → Int32} {zs : Nat → Nat} {cs : Nat → Int32} {ad : Nat → Nat} {h h' : ev_h}
theorem NdAt.keptW {i : Nat} (hN : NdAt E N ed zs cs ad i h) (hq : ∀ z, ad i ≤ z → z < ad i + wd N i → h' z = h z) : NdAt E N ed zs cs ad i h' := by
  rcases hN with ⟨hk, hc, ho⟩ | ⟨hk, hc, ho, hy⟩ | ⟨hk, hc, ho, he, hr⟩ | ⟨h6, h9, hl, hq', ho⟩
  · have hw : wd N i = 1 := by unfold wd; rw [if_neg (by omega), if_neg (by omega)]
    exact Or.inl ⟨hk, hc, (hq _ (by omega) (by omega)).trans ho⟩
  · have hw : wd N i = 2 := by unfold wd; rw [if_pos hk]
    exact Or.inr (Or.inl ⟨hk, hc, (hq _ (by omega) (by omega)).trans ho, (hq _ (by omega) (by omega)).trans hy⟩)
  · have hw : wd N i = 3 := by unfold wd; rw [if_neg (by omega), if_pos hk]
    exact Or.inr (Or.inr (Or.inl ⟨hk, hc, (hq _ (by omega) (by omega)).trans ho, (hq _ (by omega) (by omega)).trans he, (hq _ (by omega) (by omega)).trans hr⟩))
  · have hw : wd N i = 1 := by unfold wd; rw [if_neg (by omega), if_neg (by omega)]
    exact Or.inr (Or.inr (Or.inr ⟨h6, h9, hl, hq', (hq _ (by omega) (by omega)).trans ho⟩))
theorem wd_pos {i : Nat} : 1 ≤ wd N i ∧ wd N i ≤ 3 := by
  unfold wd
  split
  · omega
  · split <;> omega
theorem PtAt.kept (hP : PtAt E X nc al fl c m nu V cc on op th ac af ff qs N ed zs cs ad h) (h1 : ∀ q, X ≤ q → q < X + 78 → h' q = h q) (h2 : ∀ i, i < nc → ∀ z, ad i ≤ z → z < ad i + wd N i → h' z = h z) : PtAt E X nc al fl c m nu V cc on op th ac af ff qs N ed zs cs ad h' := by
  obtain ⟨p1, p2, ⟨nf, p3, p4⟩, p5, ⟨pm, be, le, p6⟩, p7, ⟨f, p8⟩, ⟨qf, p9, p10⟩, p11, p12, p13⟩ := hP
  exact ⟨(h1 X (by omega) (by omega)).trans p1, p2.kept (fun q a b => h1 q (by omega) (by omega)), ⟨nf, (h1 _ (by omega) (by omega)).trans p3, p4⟩, p5.kept (fun q a b => h1 q (by omega) (by omega)), ⟨pm, be, le, p6.kept (fun q a b => h1 q (by omega) (by omega))⟩, p7.kept (fun q a b => h1 q (by omega) (by omega)), ⟨f, p8.kept (fun q a b => h1 q (by omega) (by omega))⟩, ⟨qf, (h1 _ (by omega) (by omega)).trans p9, p10⟩, (h1 _ (by omega) (by omega)).trans p11, fun s hs => QnAt.kept (p12 s hs) (fun q a b => h1 q (by omega) (by omega)), fun i hi => ⟨(p13 i hi).1.keptW (h2 i hi), (p13 i hi).2⟩⟩
/-- a cell is made behind all -/
theorem PtAt.ex {x : va_E} (hP : PtAt E X nc al fl c m nu V cc on op th ac af ff qs N ed zs cs ad h) (hs : nsp X N ad nc sz) : PtAt E X nc al fl c m nu V cc on op th ac af ff qs N ed zs cs ad (ev_up h sz x) :=
  hP.kept (fun q a b => ev_up_n (by have := hs.1; omega)) (fun i hi z a b => ev_up_n (by have := (hs.2.1 i hi).2; omega))
/-- the reference is at work -/
theorem PtAt.byRef (hP : PtAt E X nc al fl c m nu V cc on op th ac af ff qs N ed zs cs ad h) (hf : fR (X + 78) h h') : PtAt E X nc al fl c m nu V cc on op th ac af ff qs N ed zs cs ad h' :=
  hP.kept (fun q a b => hf q (by omega)) (fun i hi z a b => hf z (by have := (hP.2.2.2.2.2.2.2.2.2.2 i hi).2; omega))
/-- the numbers of the object itself -/
theorem PtAt.setO {al' fl' : Nat} (hP : PtAt E X nc al fl c m nu V cc on op th ac af ff qs N ed zs cs ad h) : PtAt E X nc al' fl' c m nu V cc on op th ac af ff qs N ed zs cs ad (ev_up h X (PtO X nc al' fl')) := by
  obtain ⟨p1, p2, ⟨nf, p3, p4⟩, p5, ⟨pm, be, le, p6⟩, p7, ⟨f, p8⟩, ⟨qf, p9, p10⟩, p11, p12, p13⟩ := hP
  have h1 : ∀ q, X + 1 ≤ q → ev_up h X (PtO X nc al' fl') q = h q := fun q hq => ev_up_n (by omega)
  exact ⟨ev_up_s, p2.kept (fun q a b => h1 q (by omega)), ⟨nf, (h1 _ (by omega)).trans p3, p4⟩, p5.kept (fun q a b => h1 q (by omega)), ⟨pm, be, le, p6.kept (fun q a b => h1 q (by omega))⟩, p7.kept (fun q a b => h1 q (by omega)), ⟨f, p8.kept (fun q a b => h1 q (by omega))⟩, ⟨qf, (h1 _ (by omega)).trans p9, p10⟩, (h1 _ (by omega)).trans p11, fun s hs => QnAt.kept (p12 s hs) (fun q a b => h1 q (by omega)), fun i hi => ⟨(p13 i hi).1.keptW (fun z a b => h1 z (by have := (p13 i hi).2; omega)), (p13 i hi).2⟩⟩
theorem PtAt.setR {c' m' : Nat} {nu' : Nat → Int32} {V' : Nat → Nat → Int32} (hP : PtAt E X nc al fl c m nu V cc on op th ac af ff qs N ed zs cs ad h) (hR : RwAt E (X + 1) c' m' nu' V' h') (hf : fI (X + 1) 27 h h') : PtAt E X nc al fl c' m' nu' V' cc on op th ac af ff qs N ed zs cs ad h' := by
  obtain ⟨p1, p2, ⟨nf, p3, p4⟩, p5, ⟨pm, be, le, p6⟩, p7, ⟨f, p8⟩, ⟨qf, p9, p10⟩, p11, p12, p13⟩ := hP
  exact ⟨(hf X (by omega)).trans p1, hR, ⟨nf, (hf _ (by omega)).trans p3, p4⟩, p5.kept (fun q a b => hf q (by omega)), ⟨pm, be, le, p6.kept (fun q a b => hf q (by omega))⟩, p7.kept (fun q a b => hf q (by omega)), ⟨f, p8.kept (fun q a b => hf q (by omega))⟩, ⟨qf, (hf _ (by omega)).trans p9, p10⟩, (hf _ (by omega)).trans p11, fun s hs => QnAt.kept (p12 s hs) (fun q a b => hf q (by omega)), fun i hi => ⟨(p13 i hi).1.keptW (fun z a b => hf z (by have := (p13 i hi).2; omega)), (p13 i hi).2⟩⟩
theorem PtAt.setC {cc' : Nat} {on' op' th' : Nat → Int32} (hP : PtAt E X nc al fl c m nu V cc on op th ac af ff qs N ed zs cs ad h) (hR : CdAt E (X + 29) cc' on' op' th' h') (hf : fI (X + 29) 4 h h') : PtAt E X nc al fl c m nu V cc' on' op' th' ac af ff qs N ed zs cs ad h' := by
  obtain ⟨p1, p2, ⟨nf, p3, p4⟩, p5, ⟨pm, be, le, p6⟩, p7, ⟨f, p8⟩, ⟨qf, p9, p10⟩, p11, p12, p13⟩ := hP
  exact ⟨(hf X (by omega)).trans p1, p2.kept (fun q a b => hf q (by omega)), ⟨nf, (hf _ (by omega)).trans p3, p4⟩, hR, ⟨pm, be, le, p6.kept (fun q a b => hf q (by omega))⟩, p7.kept (fun q a b => hf q (by omega)), ⟨f, p8.kept (fun q a b => hf q (by omega))⟩, ⟨qf, (hf _ (by omega)).trans p9, p10⟩, (hf _ (by omega)).trans p11, fun s hs => QnAt.kept (p12 s hs) (fun q a b => hf q (by omega)), fun i hi => ⟨(p13 i hi).1.keptW (fun z a b => hf z (by have := (p13 i hi).2; omega)), (p13 i hi).2⟩⟩
theorem PtAt.setT {pm' : Int32} {be' le' : Nat → Int32} (hP : PtAt E X nc al fl c m nu V cc on op th ac af ff qs N ed zs cs ad h) (hR : CtAt E (X + 33) pm' be' le' h') (hf : fI (X + 33) 3 h h') : PtAt E X nc al fl c m nu V cc on op th ac af ff qs N ed zs cs ad h' := by
  obtain ⟨p1, p2, ⟨nf, p3, p4⟩, p5, -, p7, ⟨f, p8⟩, ⟨qf, p9, p10⟩, p11, p12, p13⟩ := hP
  exact ⟨(hf X (by omega)).trans p1, p2.kept (fun q a b => hf q (by omega)), ⟨nf, (hf _ (by omega)).trans p3, p4⟩, p5.kept (fun q a b => hf q (by omega)), ⟨pm', be', le', hR⟩, p7.kept (fun q a b => hf q (by omega)), ⟨f, p8.kept (fun q a b => hf q (by omega))⟩, ⟨qf, (hf _ (by omega)).trans p9, p10⟩, (hf _ (by omega)).trans p11, fun s hs => QnAt.kept (p12 s hs) (fun q a b => hf q (by omega)), fun i hi => ⟨(p13 i hi).1.keptW (fun z a b => hf z (by have := (p13 i hi).2; omega)), (p13 i hi).2⟩⟩
theorem PtAt.setA {ac' : Nat} {af' : Nat → Int32} (hP : PtAt E X nc al fl c m nu V cc on op th ac af ff qs N ed zs cs ad h) (hR : LsAt E (X + 36) ac' af' h') (hf : fI (X + 36) 2 h h') : PtAt E X nc al fl c m nu V cc on op th ac' af' ff qs N ed zs cs ad h' := by
  obtain ⟨p1, p2, ⟨nf, p3, p4⟩, p5, ⟨pm, be, le, p6⟩, p7, ⟨f, p8⟩, ⟨qf, p9, p10⟩, p11, p12, p13⟩ := hP
  exact ⟨(hf X (by omega)).trans p1, p2.kept (fun q a b => hf q (by omega)), ⟨nf, (hf _ (by omega)).trans p3, p4⟩, p5.kept (fun q a b => hf q (by omega)), ⟨pm, be, le, p6.kept (fun q a b => hf q (by omega))⟩, hR, ⟨f, p8.kept (fun q a b => hf q (by omega))⟩, ⟨qf, (hf _ (by omega)).trans p9, p10⟩, (hf _ (by omega)).trans p11, fun s hs => QnAt.kept (p12 s hs) (fun q a b => hf q (by omega)), fun i hi => ⟨(p13 i hi).1.keptW (fun z a b => hf z (by have := (p13 i hi).2; omega)), (p13 i hi).2⟩⟩
theorem PtAt.setF {ff' : Nat → Int32} (hP : PtAt E X nc al fl c m nu V cc on op th ac af ff qs N ed zs cs ad h) : PtAt E X nc al fl c m nu V cc on op th ac af ff' qs N ed zs cs ad (ev_up h (X + 41) (iA E 160 ff')) := by
  obtain ⟨p1, p2, ⟨nf, p3, p4⟩, p5, ⟨pm, be, le, p6⟩, p7, ⟨f, p8⟩, ⟨qf, p9, p10⟩, p11, p12, p13⟩ := hP
  have hf : ∀ q, q ≠ X + 41 → ev_up h (X + 41) (iA E 160 ff') q = h q := fun q hq => ev_up_n hq
  exact ⟨(hf X (by omega)).trans p1, p2.kept (fun q a b => hf q (by omega)), ⟨nf, (hf _ (by omega)).trans p3, p4⟩, p5.kept (fun q a b => hf q (by omega)), ⟨pm, be, le, p6.kept (fun q a b => hf q (by omega))⟩, p7.kept (fun q a b => hf q (by omega)), ⟨f, p8.kept (fun q a b => hf q (by omega))⟩, ⟨qf, (hf _ (by omega)).trans p9, p10⟩, ev_up_s, fun s hs => QnAt.kept (p12 s hs) (fun q a b => hf q (by omega)), fun i hi => ⟨(p13 i hi).1.keptW (fun z a b => hf z (by have := (p13 i hi).2; omega)), (p13 i hi).2⟩⟩
/-- one question -/
def uq (qs : Nat → qst) (s : Nat) (q : qst) : Nat → qst := fun t => if t = s then q else qs t
theorem PtAt.setQ {s : Nat} {q' : qst} (hs : s < 4) (hP : PtAt E X nc al fl c m nu V cc on op th ac af ff qs N ed zs cs ad h) (hR : QsAt E ad (X + 42 + 9 * s) q' h') (hf : fI (X + 42 + 9 * s) 9 h h') : PtAt E X nc al fl c m nu V cc on op th ac af ff (uq qs s q') N ed zs cs ad h' := by
  obtain ⟨p1, p2, ⟨nf, p3, p4⟩, p5, ⟨pm, be, le, p6⟩, p7, ⟨f, p8⟩, ⟨qf, p9, p10⟩, p11, p12, p13⟩ := hP
  refine ⟨(hf X (by omega)).trans p1, p2.kept (fun q a b => hf q (by omega)), ⟨nf, (hf _ (by omega)).trans p3, p4⟩, p5.kept (fun q a b => hf q (by omega)), ⟨pm, be, le, p6.kept (fun q a b => hf q (by omega))⟩, p7.kept (fun q a b => hf q (by omega)), ⟨f, p8.kept (fun q a b => hf q (by omega))⟩, ⟨qf, (hf _ (by omega)).trans p9, p10⟩, (hf _ (by omega)).trans p11, fun t ht => ?_, fun i hi => ⟨(p13 i hi).1.keptW (fun z a b => hf z (by have := (p13 i hi).2; omega)), (p13 i hi).2⟩⟩
  unfold uq
  by_cases e : t = s
  · subst e
    rw [if_pos rfl]
    exact hR
  · rw [if_neg e]
    exact QnAt.kept (p12 t ht) (fun q a b => hf q (by omega))
end PTK
