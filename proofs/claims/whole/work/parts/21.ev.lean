/-! The judgement Ev: one method's frame over a heap that is a function. It hides the machine (program, state, frames, room, words of the tables); its rules are one an instruction. -/
/-- a word that stays true at any later state -/
def ev_gd (w : Cond) : Prop := ∀ (s U : State) (A B : Array Value), s.WarmedH U.vm → w.before A s = true → w.before B U = true
theorem ev_gdT {w : Cond} (h : (w.onTables && w.keeps) = true) : ev_gd w := fun _ _ _ _ hW h1 => word_at hW (Or.inl h) h1
theorem ev_gdA {ty : FieldType} : ev_gd (.arrayClass ty) := fun _ _ _ _ hW h1 => word_at hW (Or.inr ⟨ty, rfl⟩) h1
theorem ev_gdN {a b : String} {i : Nat} {x : MethodName} : ev_gd (.methodLinkNest a i x b) := fun _ _ _ _ hW h1 => va_Nw.use rfl (va_Nw.warmM hW (va_Nw.of rfl h1))
theorem ev_gdD {x : MethodName} : ev_gd (.declares x) := fun _ _ _ _ hW h1 => va_Nw.use rfl (va_Nw.warmD hW (va_Nw.of rfl h1))
theorem ev_gdC {a b : String} : ev_gd (.castable a b) := fun _ _ _ _ hW h1 => va_Nw.use rfl (va_Nw.warmC hW (va_Nw.of rfl h1))
theorem ev_gdL {C : String} {T : u_T} {k : Nat} : ev_gd (u_lay C T k) := by
  unfold u_lay
  split
  · exact ev_gdT rfl
  · exact ev_gdT rfl
abbrev ev_h : Type := Nat → Option va_E
/-- outcome, heap behind it, its size, cells and slots left -/
abbrev ev_Q : Type := Outcome → ev_h → Nat → Nat → Nat → Prop
/-- launch; class ids and slots; array classes; the state and the arguments at the law's entry -/
abbrev ev_E : Type := Launch × va_G × (Nat → ClassId) × State × Array Value
abbrev ev_b (E : ev_E) : Nat := E.2.2.2.1.heap.size
/-- arrays of ints, booleans, longs, references -/
abbrev iA (E : ev_E) (N : Nat) (f : Nat → Int32) : va_E := .inl (E.2.2.1 0, N, .inl f)
abbrev zA (E : ev_E) (N : Nat) (f : Nat → Int32) : va_E := .inl (E.2.2.1 1, N, .inl f)
abbrev lA (E : ev_E) (N : Nat) (f : Nat → Int64) : va_E := .inl (E.2.2.1 2, N, .inr (.inl f))
abbrev rA (E : ev_E) (t N : Nat) (f : Nat → Option Nat) : va_E := .inl (E.2.2.1 t, N, .inr (.inr (.inr (.inr f))))
/-- an object of the class number ci -/
abbrev oB (ci : Nat) (fs : List Value) : va_E := .inr (ci, fs)
/-- cells a .. a + N - 1 -/
def ev_upr (h : ev_h) (a N : Nat) (x : va_E) : ev_h := fun q => if a ≤ q ∧ q < a + N then some x else h q
def ev_up (h : ev_h) (a : Nat) (x : va_E) : ev_h := fun q => if q = a then some x else h q
theorem ev_up_s {h : ev_h} {a : Nat} {x : va_E} : ev_up h a x a = some x := if_pos rfl
theorem ev_up_n {h : ev_h} {a q : Nat} {x : va_E} (hq : q ≠ a) : ev_up h a x q = h q := if_neg hq
theorem ev_up_up {h : ev_h} {a : Nat} {x y : va_E} : ev_up (ev_up h a x) a y = ev_up h a y := by
  funext q
  by_cases hq : q = a
  · simp [ev_up, hq]
  · simp [ev_up, hq]
theorem ev_up_comm {h : ev_h} {a b : Nat} {x y : va_E} (hab : a ≠ b) : ev_up (ev_up h a x) b y = ev_up (ev_up h b y) a x := by
  funext q
  by_cases h1 : q = a
  · subst h1
    simp [ev_up, hab]
  · simp [ev_up, h1]
theorem ev_up_self {h : ev_h} {a : Nat} {x : va_E} (hx : h a = some x) : ev_up h a x = h := by
  funext q
  by_cases hq : q = a
  · subst hq
    simp [ev_up, hx]
  · simp [ev_up, hq]
def ev_H (D : va_G) (h : ev_h) (H : Heap) : Prop := ∀ (a : Nat) (x : va_E), h a = some x → va_at D ev_cl (a, x) H
def ev_R (E : ev_E) (h : ev_h) (sz : Nat) (H : Heap) (locs : List Loc) : Prop :=
  ev_H E.2.1 h H ∧ H.size = sz ∧ ev_b E ≤ sz ∧ (∀ a x, h a = some x → ev_b E ≤ a) ∧ (∀ q : Nat, q < ev_b E → H[q]? = E.2.2.2.1.heap[q]?) ∧ ∀ x ∈ locs, ev_b E ≤ x.base
/-- what holds at the law's entry: the words of the tables, classes and array classes, text constants; no stack traces -/
def ev_ok (E : ev_E) : Prop := (∀ w ∈ lw_tbl, w.before E.2.2.2.2 E.2.2.2.1 = true) ∧ va_K E.2.1 ev_cl (ev_tys E.2.2.1) E.2.2.2.1 ∧ (∀ q ∈ ev_strs, ∃ a, vk_R q.1 q.2.1 q.2.2 a E.2.2.2.1) ∧ E.1.stackTraces = false ∧ (∀ w ∈ ev_stat, w.before E.2.2.2.2 E.2.2.2.1 = true)
/-- a frame's context: its state lies behind the law's entry; its code is M's -/
def ev_C (E : ev_E) (M : ev_M) (p : Program) (s : State) (m : MethodId) (meth : Method) (c : Code) : Prop :=
  ev_ok E ∧ p.tables.exec = Jvm.exec ∧ c.code = M.2.1 ∧ c.maxLocals = M.2.2.1 ∧ meth.sig.returnType = M.2.2.2.1 ∧ meth.locks = false ∧
  (c.exceptionTable.toList.map fun x => (x.startPc, x.endPc, x.handlerPc, x.catchType)) = M.2.2.2.2 ∧ s.vm.findClass M.1.cls = some m.cls ∧ meth.name = M.1.name ∧
  E.2.2.2.1.WarmedH s.vm ∧ (∀ q : Nat, q < ev_b E → s.heap[q]? = E.2.2.2.1.heap[q]?) ∧ ev_b E ≤ s.heap.size
section EVC0
variable {E : ev_E} {M : ev_M} {p : Program} {s : State} {m : MethodId} {meth : Method} {c : Code}
theorem ev_C.ok (hC : ev_C E M p s m meth c) : ev_ok E := hC.1
theorem ev_C.ex (hC : ev_C E M p s m meth c) : p.tables.exec = Jvm.exec := hC.2.1
theorem ev_C.cd (hC : ev_C E M p s m meth c) : c.code = M.2.1 := hC.2.2.1
theorem ev_C.ml (hC : ev_C E M p s m meth c) : c.maxLocals = M.2.2.1 := hC.2.2.2.1
theorem ev_C.rt (hC : ev_C E M p s m meth c) : meth.sig.returnType = M.2.2.2.1 := hC.2.2.2.2.1
theorem ev_C.lk (hC : ev_C E M p s m meth c) : meth.locks = false := hC.2.2.2.2.2.1
theorem ev_C.xt (hC : ev_C E M p s m meth c) : (c.exceptionTable.toList.map fun x => (x.startPc, x.endPc, x.handlerPc, x.catchType)) = M.2.2.2.2 := hC.2.2.2.2.2.2.1
theorem ev_C.ow (hC : ev_C E M p s m meth c) : s.vm.findClass M.1.cls = some m.cls := hC.2.2.2.2.2.2.2.1
theorem ev_C.nm (hC : ev_C E M p s m meth c) : meth.name = M.1.name := hC.2.2.2.2.2.2.2.2.1
theorem ev_C.wm (hC : ev_C E M p s m meth c) : E.2.2.2.1.WarmedH s.vm := hC.2.2.2.2.2.2.2.2.2.1
theorem ev_C.lo (hC : ev_C E M p s m meth c) : ∀ q : Nat, q < ev_b E → s.heap[q]? = E.2.2.2.1.heap[q]? := hC.2.2.2.2.2.2.2.2.2.2.1
theorem ev_C.bz (hC : ev_C E M p s m meth c) : ev_b E ≤ s.heap.size := hC.2.2.2.2.2.2.2.2.2.2.2
theorem ev_C.w (hC : ev_C E M p s m meth c) {w : Cond} (hw : w ∈ lw_tbl) (hg : ev_gd w) (args : Array Value) : w.before args s = true := hg _ _ _ _ hC.wm (hC.1.1 w hw)
theorem ev_C.nc (hC : ev_C E M p s m meth c) {a b : String} (hw : Cond.not (.castable a b) ∈ lw_tbl) : va_Nc a b s := va_Nc.moved hC.wm.alike (va_Nc.of (hC.1.1 _ hw))
theorem ev_C.K (hC : ev_C E M p s m meth c) : va_K E.2.1 ev_cl (ev_tys E.2.2.1) s := va_K.moved hC.wm.alike hC.1.2.1
end EVC0
-- locals: a list of what is known of each place
def ev_L (nL : Nat) (lsr : Array Slot) (ls : List (Option Value)) : Prop := lsr.size = nL ∧ lv_wf lsr ∧ ∀ (i : Nat) (v : Value), ls[i]? = some (some v) → lsr[i]? = some (.val v)
/-- what holds of the machine's state when the frame has ended -/
def ev_Z (E : ev_E) (s : State) (below : List Frame) (R : Room) (Q : ev_Q) (t : State) : Prop :=
  ∃ (o : Outcome) (h : ev_h) (sz k n : Nat) (L : List Loc) (cells slots : Nat), t.status = .running ∧ Ended t below o ∧ s.WarmedH t.vm ∧ s.sameButNew ({ t with vm := s.vm } : State) L cells slots ∧
    ev_R E h sz t.heap L ∧ cells + k ≤ R.cells ∧ slots + n ≤ R.slots ∧ Q o h sz k n
def Ev (E : ev_E) (M : ev_M) (d pc : Nat) (ls : List (Option Value)) (st : List Value) (h : ev_h) (sz k n : Nat) (Q : ev_Q) : Prop :=
  ∀ (p : Program) (e : Env) (R : Room) (s : State) (m : MethodId) (args : Array Value) (below : List Frame) (meth : Method) (c : Code) (H : Heap) (locs : List Loc) (cells slots : Nat) (lsr : Array Slot),
    ev_C E M p s m meth c → ev_R E h sz H locs → ev_L M.2.2.1 lsr ls → d ≤ R.frames → d * 64 ≤ R.locals → cells + k ≤ R.cells → slots + n ≤ R.slots →
    W p E.1 e R s m args below meth c H locs cells slots (ev_Z E s below R Q) (F0 m pc lsr st)
/-- an instruction's decode row, and the pc behind it -/
def ev_d (M : ev_M) (pc : Nat) (i : Instr) (len pc' : Nat) : Prop := decode M.2.1 pc = .ok (i, len) ∧ pc + len = pc'
theorem ev_dt {M : ev_M} {t : ev_tab} (h : ev_dall M t) (i : Nat) {pc len pc' : Nat} {ins : Instr} (hi : t[i]? = some (pc, ins, len, pc')) : ev_d M pc ins len pc' := by
  have h1 := h (pc, ins, len, pc') (List.mem_of_getElem? hi)
  exact ⟨h1.1, h1.2⟩
section EV
variable {E : ev_E} {M : ev_M} {d pc : Nat} {ls : List (Option Value)} {st : List Value} {h : ev_h} {sz k n : Nat} {Q : ev_Q}
/-- more room than needed -/
theorem ev_wide {d' k' n' : Nat} (hd : d' ≤ d) (hk : k' ≤ k) (hn : n' ≤ n) (kk : Ev E M d' pc ls st h sz k' n' Q) : Ev E M d pc ls st h sz k n Q :=
  fun p e R s m args below meth c H locs cells slots lsr hC hR hL h1 h2 h3 h4 => kk p e R s m args below meth c H locs cells slots lsr hC hR hL (by omega) (Nat.le_trans (Nat.mul_le_mul_right 64 hd) h2) (by omega) (by omega)
/-- a stronger end -/
theorem ev_post {Q' : ev_Q} (kk : Ev E M d pc ls st h sz k n Q') (hq : ∀ o h' sz' k' n', Q' o h' sz' k' n' → Q o h' sz' k' n') : Ev E M d pc ls st h sz k n Q := by
  intro p e R s m args below meth c H locs cells slots lsr hC hR hL h1 h2 h3 h4 T hT X
  obtain ⟨t, st', o, h', sz', k', n', L, c', n2, g1, g2, g3, g4, g5, g6, g7, g8⟩ := kk p e R s m args below meth c H locs cells slots lsr hC hR hL h1 h2 h3 h4 T hT X
  exact ⟨t, st', o, h', sz', k', n', L, c', n2, g1, g2, g3, g4, g5, g6, g7, hq _ _ _ _ _ g8⟩
/-- an instruction that moves nothing but pc and stack -/
theorem ev_pure {pc' : Nat} {st' : List Value}
    (hw : ∀ {p : Program} {e : Env} {R : Room} {s : State} {m : MethodId} {args : Array Value} {below : List Frame} {meth : Method} {c : Code} {H : Heap} {locs : List Loc} {cells slots : Nat} {Z : State → Prop} {lsr : Array Slot},
      p.tables.exec = Jvm.exec → c.code = M.2.1 → ev_L M.2.2.1 lsr ls → W p E.1 e R s m args below meth c H locs cells slots Z (F0 m pc' lsr st') → W p E.1 e R s m args below meth c H locs cells slots Z (F0 m pc lsr st))
    (kk : Ev E M d pc' ls st' h sz k n Q) : Ev E M d pc ls st h sz k n Q :=
  fun p e R s m args below meth c H locs cells slots lsr hC hR hL h1 h2 h3 h4 => hw hC.ex hC.cd hL (kk p e R s m args below meth c H locs cells slots lsr hC hR hL h1 h2 h3 h4)
/-- a branch -/
theorem ev_br {P : Prop} {pt pf : Nat} {st' : List Value}
    (hw : ∀ {p : Program} {e : Env} {R : Room} {s : State} {m : MethodId} {args : Array Value} {below : List Frame} {meth : Method} {c : Code} {H : Heap} {locs : List Loc} {cells slots : Nat} {Z : State → Prop} {lsr : Array Slot},
      p.tables.exec = Jvm.exec → c.code = M.2.1 → (P → W p E.1 e R s m args below meth c H locs cells slots Z (F0 m pt lsr st')) → (¬ P → W p E.1 e R s m args below meth c H locs cells slots Z (F0 m pf lsr st')) → W p E.1 e R s m args below meth c H locs cells slots Z (F0 m pc lsr st))
    (kt : P → Ev E M d pt ls st' h sz k n Q) (kf : ¬ P → Ev E M d pf ls st' h sz k n Q) : Ev E M d pc ls st h sz k n Q :=
  fun p e R s m args below meth c H locs cells slots lsr hC hR hL h1 h2 h3 h4 => hw hC.ex hC.cd
    (fun a => kt a p e R s m args below meth c H locs cells slots lsr hC hR hL h1 h2 h3 h4) (fun a => kf a p e R s m args below meth c H locs cells slots lsr hC hR hL h1 h2 h3 h4)
end EV
-- locals: from a list of places to the kit's pairs and back
def ev_c1 : Option Value → Bool
  | none => true
  | some w => w.category == 1
def ev_prev (ls : List (Option Value)) : Nat → Option (Option Value)
  | 0 => none
  | j + 1 => ls[j]?
theorem ev_c1_of {x : Option Value} {w : Value} (h : ev_c1 x = true) (hw : some x = some (some w)) : w.category ≠ 2 := by
  cases hw
  simp only [ev_c1, beq_iff_eq] at h
  omega
def ev_prs (ls : List (Option Value)) : List (Nat × Value) := (List.range ls.length).filterMap fun j => (ls[j]?.join).map fun w => (j, w)
theorem ev_prs_mem {ls : List (Option Value)} {j : Nat} {w : Value} : (j, w) ∈ ev_prs ls ↔ ls[j]? = some (some w) := by
  simp only [ev_prs, List.mem_filterMap, List.mem_range, Option.map_eq_some_iff, Prod.mk.injEq]
  constructor
  · rintro ⟨i, hi, u, hu, rfl, rfl⟩
    rw [List.getElem?_eq_getElem hi] at hu ⊢
    simpa using hu
  · intro hj
    have hlt : j < ls.length := (List.getElem?_eq_some_iff.mp hj).1
    exact ⟨j, hlt, w, by rw [hj]; rfl, rfl, rfl⟩
theorem ev_has {nL : Nat} {lsr : Array Slot} {ls : List (Option Value)} (hL : ev_L nL lsr ls) : lv_has lsr nL (ev_prs ls) := ⟨hL.1, hL.2.1, fun q hq => hL.2.2 q.1 q.2 (ev_prs_mem.mp hq)⟩
theorem ev_has1 {nL i : Nat} {v : Value} {lsr : Array Slot} {ls : List (Option Value)} (hi : lsr[i]? = some (.val v)) (hL : ev_L nL lsr ls) : lv_has lsr nL ((i, v) :: ev_prs ls) :=
  ⟨hL.1, hL.2.1, fun q hq => by
    rcases List.mem_cons.mp hq with rfl | hq
    · exact hi
    · exact hL.2.2 q.1 q.2 (ev_prs_mem.mp hq)⟩
theorem ev_L_gen {nL i : Nat} {v : Value} {ls' : Array Slot} {ls : List (Option Value)} {lv : List (Nat × Value)} (hsub : ∀ q ∈ ev_prs ls, q ∈ lv)
    (hl : lv_has ls' nL ((i, v) :: lv.filter (fun q => !(q.1 == i) && !(q.1 + 1 == i && q.2.category == 2)))) (hp : ∀ w, ev_prev ls i = some (some w) → w.category ≠ 2) : ev_L nL ls' (ls.set i (some v)) := by
  refine ⟨hl.1, hl.2.1, fun j w hj => ?_⟩
  by_cases hji : j = i
  · subst hji
    by_cases hlt : j < ls.length
    · rw [List.getElem?_set_self hlt] at hj
      cases hj
      exact hl.2.2 (j, v) List.mem_cons_self
    · rw [List.getElem?_eq_none (by simpa using Nat.le_of_not_lt hlt)] at hj
      cases hj
  · rw [List.getElem?_set_ne (Ne.symm hji)] at hj
    refine hl.2.2 (j, w) (List.mem_cons_of_mem _ (List.mem_filter.mpr ⟨hsub _ (ev_prs_mem.mpr hj), ?_⟩))
    have h1 : ¬ (j + 1 = i ∧ w.category = 2) := by
      rintro ⟨rfl, h2⟩
      exact hp w hj h2
    simp only [Bool.and_eq_true, Bool.not_eq_true', beq_eq_false_iff_ne, Bool.and_eq_false_iff]
    refine ⟨hji, ?_⟩
    by_cases h3 : j + 1 = i
    · exact Or.inr fun h4 => h1 ⟨h3, h4⟩
    · exact Or.inl h3
theorem ev_L_gen2 {nL i : Nat} {v : Value} {ls' : Array Slot} {ls : List (Option Value)}
    (hl : lv_has ls' nL ((i, v) :: (ev_prs ls).filter (fun q => !(q.1 == i) && (!(q.1 == i + 1) && !(q.1 + 1 == i && q.2.category == 2))))) (hp : ∀ w, ev_prev ls i = some (some w) → w.category ≠ 2) : ev_L nL ls' ((ls.set i (some v)).set (i + 1) none) := by
  refine ⟨hl.1, hl.2.1, fun j w hj => ?_⟩
  by_cases hj2 : j = i + 1
  · subst hj2
    by_cases hlt : i + 1 < (ls.set i (some v)).length
    · rw [List.getElem?_set_self hlt] at hj
      cases hj
    · rw [List.getElem?_eq_none (by simpa using Nat.le_of_not_lt hlt)] at hj
      cases hj
  rw [List.getElem?_set_ne (Ne.symm hj2)] at hj
  by_cases hji : j = i
  · subst hji
    by_cases hlt : j < ls.length
    · rw [List.getElem?_set_self hlt] at hj
      cases hj
      exact hl.2.2 (j, v) List.mem_cons_self
    · rw [List.getElem?_eq_none (by simpa using Nat.le_of_not_lt hlt)] at hj
      cases hj
  · rw [List.getElem?_set_ne (Ne.symm hji)] at hj
    refine hl.2.2 (j, w) (List.mem_cons_of_mem _ (List.mem_filter.mpr ⟨ev_prs_mem.mpr hj, ?_⟩))
    have h1 : ¬ (j + 1 = i ∧ w.category = 2) := by
      rintro ⟨rfl, h2⟩
      exact hp w hj h2
    simp only [Bool.and_eq_true, Bool.not_eq_true', beq_eq_false_iff_ne, Bool.and_eq_false_iff]
    refine ⟨hji, hj2, ?_⟩
    by_cases h3 : j + 1 = i
    · exact Or.inr fun h4 => h1 ⟨h3, h4⟩
    · exact Or.inl h3
theorem ev_L_set {nL i : Nat} {v : Value} {ls' : Array Slot} {ls : List (Option Value)}
    (hl : lv_has ls' nL ((i, v) :: (ev_prs ls).filter (fun q => !(q.1 == i) && !(q.1 + 1 == i && q.2.category == 2)))) (hp : ∀ w, ev_prev ls i = some (some w) → w.category ≠ 2) : ev_L nL ls' (ls.set i (some v)) := ev_L_gen (fun _ h => h) hl hp
theorem ev_L_set1 {nL i : Nat} {u v : Value} {ls' : Array Slot} {ls : List (Option Value)}
    (hl : lv_has ls' nL ((i, v) :: ((i, u) :: ev_prs ls).filter (fun q => !(q.1 == i) && !(q.1 + 1 == i && q.2.category == 2)))) (hp : ∀ w, ev_prev ls i = some (some w) → w.category ≠ 2) : ev_L nL ls' (ls.set i (some v)) := ev_L_gen (fun _ h => List.mem_cons_of_mem _ h) hl hp
/-- less known of the locals -/
theorem ev_less {E : ev_E} {M : ev_M} {d pc : Nat} {ls ls' : List (Option Value)} {st : List Value} {h : ev_h} {sz k n : Nat} {Q : ev_Q} (hl : ∀ (i : Nat) (v : Value), ls'[i]? = some (some v) → ls[i]? = some (some v)) (kk : Ev E M d pc ls' st h sz k n Q) : Ev E M d pc ls st h sz k n Q :=
  fun p e R s m args below meth c H locs cells slots lsr hC hR hL h1 h2 h3 h4 => kk p e R s m args below meth c H locs cells slots lsr hC hR ⟨hL.1, hL.2.1, fun i v hi => hL.2.2 i v (hl i v hi)⟩ h1 h2 h3 h4
-- returns
section EVR
variable {E : ev_E} {M : ev_M} {d pc pc' : Nat} {ls : List (Option Value)} {h : ev_h} {sz k n : Nat} {Q : ev_Q}
theorem ev_ireturn {v : Int32} {ty : FieldType} (hd : ev_d M pc .ireturn 1 pc') (hr : M.2.2.2.1 = some ty) (hn : narrow ty (.int v) = .int v) (hq : Q (.returned (some (.int v))) h sz k n) : Ev E M d pc ls [.int v] h sz k n Q := by
  intro p e R s m args below meth c H locs cells slots lsr hC hR hL h1 h2 h3 h4 T hT X
  obtain ⟨hd, -⟩ := hd
  have hx := hC.ex
  have hb := hC.cd
  have hlk := hC.lk
  have hr' : meth.sig.returnType = some ty := hC.rt.trans hr
  obtain ⟨fs, hret, hrun, hended, hWm, hframe⟩ := X.leave (v := some (.int v)) (hlocks := hlk) (fun h => by rw [hr'] at h; cases h)
  have hmeth' : T.vm.method? m = some meth := X.method'
  refine ⟨T.setFrames fs, ?_, .returned (some (.int v)), h, sz, k, n, locs, cells, slots, hrun, hended, hWm, hframe, by rw [show (T.setFrames fs).heap = H from hT]; exact hR, h3, h4, hq⟩
  jvm_step X.here [X.here.top, hx, hb, hd, hmeth', hr', hn]
  (try refine ⟨rfl, ?_⟩); (try refine ⟨rfl, ?_⟩)
  first | (intro acts; rw [hret _ acts rfl rfl rfl]) | rw [hret _ _ rfl rfl rfl]
  exact Steps.refl _
theorem ev_lreturn {v : Int64} (hd : ev_d M pc .lreturn 1 pc') (hr : M.2.2.2.1 = some .long) (hq : Q (.returned (some (.long v))) h sz k n) : Ev E M d pc ls [.long v] h sz k n Q := by
  intro p e R s m args below meth c H locs cells slots lsr hC hR hL h1 h2 h3 h4 T hT X
  obtain ⟨hd, -⟩ := hd
  have hx := hC.ex
  have hb := hC.cd
  have hlk := hC.lk
  have hr' : meth.sig.returnType = some .long := hC.rt.trans hr
  obtain ⟨fs, hret, hrun, hended, hWm, hframe⟩ := X.leave (v := some (.long v)) (hlocks := hlk) (fun h => by rw [hr'] at h; cases h)
  have hmeth' : T.vm.method? m = some meth := X.method'
  refine ⟨T.setFrames fs, ?_, .returned (some (.long v)), h, sz, k, n, locs, cells, slots, hrun, hended, hWm, hframe, by rw [show (T.setFrames fs).heap = H from hT]; exact hR, h3, h4, hq⟩
  jvm_step X.here [X.here.top, hx, hb, hd, hmeth', hr', narrow]
  (try refine ⟨rfl, ?_⟩); (try refine ⟨rfl, ?_⟩)
  first | (intro acts; rw [hret _ acts rfl rfl rfl]) | rw [hret _ _ rfl rfl rfl]
  exact Steps.refl _
theorem ev_areturn {a : Nat} {cn : String} (hd : ev_d M pc .areturn 1 pc') (hr : M.2.2.2.1 = some (.object cn)) (hq : Q (.returned (some (.ref a))) h sz k n) : Ev E M d pc ls [.ref a] h sz k n Q := by
  intro p e R s m args below meth c H locs cells slots lsr hC hR hL h1 h2 h3 h4 T hT X
  obtain ⟨hd, -⟩ := hd
  have hx := hC.ex
  have hb := hC.cd
  have hlk := hC.lk
  have hr' : meth.sig.returnType = some (.object cn) := hC.rt.trans hr
  obtain ⟨fs, hret, hrun, hended, hWm, hframe⟩ := X.leave (v := some (.ref a)) (hlocks := hlk) (fun h => by rw [hr'] at h; cases h)
  have hmeth' : T.vm.method? m = some meth := X.method'
  refine ⟨T.setFrames fs, ?_, .returned (some (.ref a)), h, sz, k, n, locs, cells, slots, hrun, hended, hWm, hframe, by rw [show (T.setFrames fs).heap = H from hT]; exact hR, h3, h4, hq⟩
  jvm_step X.here [X.here.top, hx, hb, hd, hmeth', hr']
  (try refine ⟨rfl, ?_⟩); (try refine ⟨rfl, ?_⟩)
  first | (intro acts; rw [hret _ acts rfl rfl rfl]) | rw [hret _ _ rfl rfl rfl]
  exact Steps.refl _
theorem ev_return (hd : ev_d M pc .return_ 1 pc') (hr : M.2.2.2.1 = none) (hq : Q (.returned none) h sz k n) : Ev E M d pc ls [] h sz k n Q := by
  intro p e R s m args below meth c H locs cells slots lsr hC hR hL h1 h2 h3 h4 T hT X
  obtain ⟨hd, -⟩ := hd
  have hx := hC.ex
  have hb := hC.cd
  have hlk := hC.lk
  have hr' : meth.sig.returnType = none := hC.rt.trans hr
  obtain ⟨fs, hret, hrun, hended, hWm, hframe⟩ := X.leave (v := none) (hlocks := hlk) (fun _ => rfl)
  have hmeth' : T.vm.method? m = some meth := X.method'
  refine ⟨T.setFrames fs, ?_, .returned none, h, sz, k, n, locs, cells, slots, hrun, hended, hWm, hframe, by rw [show (T.setFrames fs).heap = H from hT]; exact hR, h3, h4, hq⟩
  jvm_step X.here [X.here.top, hx, hb, hd, hmeth', hr']
  (try refine ⟨rfl, ?_⟩); (try refine ⟨rfl, ?_⟩)
  first | (intro acts; rw [hret _ acts rfl rfl rfl]) | rw [hret _ _ rfl rfl rfl]
  exact Steps.refl _
end EVR
