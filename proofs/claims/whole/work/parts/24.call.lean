/-! Ev: calls, and what goes on behind them. -/
/-- the search for a handler, at the call at pc -/
def Et (E : ev_E) (M : ev_M) (d pc : Nat) (ls : List (Option Value)) (a : Nat) (h : ev_h) (sz k n : Nat) (Q : ev_Q) : Prop :=
  ∀ (p : Program) (e : Env) (R : Room) (s : State) (m : MethodId) (args : Array Value) (below : List Frame) (meth : Method) (c : Code) (T : State) (locs : List Loc) (cells slots : Nat) (lsr : Array Slot) (st : List Value),
    ev_C E M p s m meth c → ev_R E h sz T.heap locs → ev_L M.2.2.1 lsr ls → d ≤ R.frames → d * 64 ≤ R.locals → cells + k ≤ R.cells → slots + n ≤ R.slots → Stand p E.1 e R s m args below meth c T locs cells slots →
    ∃ t, Steps p.tables e below ((T.setTop (F0 m pc lsr st)).pushFrame (.throwing a)) t ∧ ev_Z E s below R Q t
/-- what goes on behind a call at pc: the frame at pc', or the search for a handler -/
def ev_af (E : ev_E) (M : ev_M) (d pc pc' : Nat) (ls : List (Option Value)) (st : List Value) (Q : ev_Q) : ev_Q := fun o h sz k n => match o with
  | .returned v => Ev E M d pc' ls (v.toList ++ st) h sz k n Q
  | .threw a => Et E M d pc ls a h sz k n Q
theorem ev_r0 {E : ev_E} {M : ev_M} {d pc pc' : Nat} {ls : List (Option Value)} {st : List Value} {Q : ev_Q} {h : ev_h} {sz k n : Nat} (kk : Ev E M d pc' ls st h sz k n Q) : ev_af E M d pc pc' ls st Q (.returned none) h sz k n := kk
theorem ev_r1 {E : ev_E} {M : ev_M} {d pc pc' : Nat} {ls : List (Option Value)} {st : List Value} {Q : ev_Q} {h : ev_h} {sz k n : Nat} {v : Value} (kk : Ev E M d pc' ls (v :: st) h sz k n Q) : ev_af E M d pc pc' ls st Q (.returned (some v)) h sz k n := kk
theorem ev_rt {E : ev_E} {M : ev_M} {d pc pc' : Nat} {ls : List (Option Value)} {st : List Value} {Q : ev_Q} {h : ev_h} {sz k n a : Nat} (kk : Et E M d pc ls a h sz k n Q) : ev_af E M d pc pc' ls st Q (.threw a) h sz k n := kk
/-- the locals with which a method begins -/
def ev_ar : List Value → List (Option Value)
  | [] => []
  | v :: vs => if v.category = 2 then some v :: none :: ev_ar vs else some v :: ev_ar vs
theorem ev_weak {tb : Tables} {e : Env} {mid below : List Frame} {a b : State} (h : Steps tb e (mid ++ below) a b) : Steps tb e below a b := by
  obtain ⟨n, hn, w⟩ := h
  exact ⟨n, hn, fun k hk => (w k hk).weaken⟩
theorem ev_args_mem : ∀ (As : List Value) (j i : Nat) (v : Value), (ev_ar As)[i]? = some (some v) → (j + i, v) ∈ lv_args j As
  | [], j, i, v, h => by simp [ev_ar] at h
  | a :: As, j, i, v, h => by
    simp only [ev_ar] at h
    simp only [lv_args]
    split at h
    · rename_i h2
      rw [if_pos h2]
      match i, h with
      | 0, h =>
        simp at h
        subst h
        exact List.mem_cons_self
      | 1, h => simp at h
      | i + 2, h =>
        simp only [List.getElem?_cons_succ] at h
        have := ev_args_mem As (j + 2) i v h
        rw [show j + (i + 2) = j + 2 + i by omega]
        exact List.mem_cons_of_mem _ this
    · rename_i h2
      rw [if_neg h2]
      match i, h with
      | 0, h =>
        simp at h
        subst h
        exact List.mem_cons_self
      | i + 1, h =>
        simp only [List.getElem?_cons_succ] at h
        have := ev_args_mem As (j + 1) i v h
        rw [show j + (i + 1) = j + 1 + i by omega]
        exact List.mem_cons_of_mem _ this
theorem ev_ar_len : ∀ As : List Value, (lg_sl As).length = (ev_ar As).length
  | [] => rfl
  | a :: As => by
    have h := ev_ar_len As
    have e : lg_sl (a :: As) = (if a.category = 2 then [Slot.val a, Slot.second] else [Slot.val a]) ++ lg_sl As := rfl
    rw [e, List.length_append, h]
    simp only [ev_ar]
    split
    · simp; omega
    · simp; omega
/-- into the callee's frame, and out of it -/
theorem ev_enter {E : ev_E} {M M' : ev_M} {d pc pc' : Nat} {ls lk : List (Option Value)} {rest As : List Value} {h : ev_h} {sz k n : Nat} {Q : ev_Q} {p : Program} {e : Env} {R : Room} {s : State} {m : MethodId} {args : Array Value} {below : List Frame} {meth : Method} {c : Code} {T : State} {locs : List Loc} {cells slots : Nat} {lsr : Array Slot}
    (hC : ev_C E M p s m meth c) (hR : ev_R E h sz T.heap locs) (hL : ev_L M.2.2.1 lsr ls) (h1 : d + 1 ≤ R.frames) (h2 : (d + 1) * 64 ≤ R.locals) (h3 : cells + k ≤ R.cells) (h4 : slots + n ≤ R.slots)
    (X : Stand p E.1 e R s m args below meth c T locs cells slots) {ig : Instr} (hdg : decode c.code pc = .ok (ig, 3)) (hpc : pc + 3 = pc') {mk : MethodId} {methk : Method} {ck : Code}
    (hn : s.methodNamed? M'.1 = some mk) (hmk : s.vm.method? mk = some methk) (hck : methk.code = some ck) (e1 : ck.code = M'.2.1) (e2 : ck.maxLocals = M'.2.2.1) (e3 : methk.sig.returnType = M'.2.2.2.1) (e4 : methk.locks = false)
    (e5 : (ck.exceptionTable.toList.map fun x => (x.startPc, x.endPc, x.handlerPc, x.catchType)) = M'.2.2.2.2) (hpl : plainName M'.1.cls = true)
    (hroom : (rest.map fun v => v.category).sum + M'.2.2.1 + 11 ≤ 64) (hlk : ∀ (i : Nat) (v : Value), lk[i]? = some (some v) → (ev_ar As)[i]? = some (some v)) (hlen : (ev_ar As).length ≤ M'.2.2.1)
    (kk : Ev E M' d 0 lk [] h sz k n (ev_af E M (d + 1) pc pc' ls rest Q)) :
    ∃ t, (∀ acts, Steps p.tables e below (doInvoke e (T.setTop (F0 m pc lsr rest)) acts mk As.toArray).1 t) ∧ ev_Z E s below R Q t := by
  have hsize : (F0 m pc lsr rest).locals.size = c.maxLocals := hL.1.trans hC.ml.symm
  have hmkT : T.vm.method? mk = some methk := by rw [X.warmed.alike.method?]; exact hmk
  have hfc : s.vm.findClass M'.1.cls = some mk.cls := findClass_of_methodNamed hn
  have hpk : T.plainMethod mk := by
    intro kx hkx
    refine plain_of_name ?_
    obtain ⟨k0, hk0, hk0n⟩ := className_of_methodNamed hn
    obtain ⟨k1, hk1, he⟩ := X.warmed.alike.2.2 _ _ hk0
    have ek : kx = k1 := Option.some.inj (hkx.symm.trans hk1)
    rw [ek, he]
    show plainName k0.name = true
    rw [hk0n]
    exact hpl
  have hmr : (F0 m pc lsr rest).monitorRoom = 0 := rfl
  obtain ⟨Y₀, hin⟩ := X.into (g := F0 m pc lsr rest) rfl hsize hdg As.toArray (R' := { frames := d, cells := R.cells - cells, slots := R.slots - slots, locals := d * 64 }) hmkT hck e4 hpk h1
    (by show 2 * (F0 m pc lsr rest).monitorRoom + (rest.map fun v => v.category).sum + (ck.maxLocals + 11) + d * 64 ≤ R.locals; rw [hmr, e2]; omega) (by show cells + (R.cells - cells) ≤ R.cells; omega) (by show slots + (R.slots - slots) ≤ R.slots; omega)
  have hWk : E.2.2.2.1.WarmedH (T.calling (F0 m pc lsr rest) mk As.toArray).vm := State.WarmedH.trans hC.wm X.warmed
  have hhk : (T.calling (F0 m pc lsr rest) mk As.toArray).heap = T.heap := rfl
  have hCk : ev_C E M' p (T.calling (F0 m pc lsr rest) mk As.toArray) mk methk ck :=
    ⟨hC.1, hC.ex, e1, e2, e3, e4, e5, by show T.vm.findClass _ = _; rw [X.warmed.alike.findClass]; exact hfc, (name_of_methodNamed hn hmk).1, hWk, fun q hq => by rw [hhk]; exact hR.2.2.2.2.1 q hq, by rw [hhk, hR.2.1]; exact hR.2.2.1⟩
  have hl0 := lv_entry As (n := ck.maxLocals) (by rw [ev_ar_len As, e2]; exact hlen)
  have hef := lg_entry_eq mk As ck.maxLocals
  generalize (lg_sl As ++ List.replicate (ck.maxLocals - (lg_sl As).length) Slot.unset).toArray = lsk at hl0 hef
  have hLk : ev_L M'.2.2.1 lsk lk := by
    refine ⟨hl0.1.trans e2, hl0.2.1, fun i v hi => ?_⟩
    have := hl0.2.2 _ (ev_args_mem As 0 i v (hlk i v hi))
    simpa using this
  obtain ⟨t, hst, o, h', sz', k', n', L, c', n2, hrun, hend, hWm, hsame, hR2, hk', hn', hq⟩ := kk p e { frames := d, cells := R.cells - cells, slots := R.slots - slots, locals := d * 64 } _ mk As.toArray (.java (F0 m pc lsr rest) :: below) methk ck T.heap [] 0 0 lsk hCk ⟨hR.1, hR.2.1, hR.2.2.1, hR.2.2.2.1, hR.2.2.2.2.1, fun x hx => by cases hx⟩ hLk
    (Nat.le_refl _) (Nat.le_refl _) (by show 0 + k ≤ R.cells - cells; omega) (by show 0 + n ≤ R.slots - slots; omega) ((T.setTop (F0 m pc lsr rest)).pushFrame (.java (entryFrame mk As.toArray ck.maxLocals))) rfl Y₀
  have hst' : Steps p.tables e below (((T.setTop (F0 m pc lsr rest)).pushFrame (.java (entryFrame mk As.toArray ck.maxLocals))).setTop (entryFrame mk As.toArray ck.maxLocals)) t := ev_weak (mid := [.java (F0 m pc lsr rest)]) (by rw [hef]; rw [hef] at hst; exact hst)
  have hk2 : c' + k' ≤ R.cells - cells := hk'
  have hn2 : n2 + n' ≤ R.slots - slots := hn'
  cases o with
  | returned v =>
    obtain ⟨T', X', hW', hB', ht⟩ := X.outOf (g := F0 m pc lsr rest) rfl hdg hend hWm hsame
    have hh : T'.heap = t.heap := by rw [ht]; rfl
    obtain ⟨t2, s2, z2⟩ := hq p e R s m args below meth c T'.heap (locs ++ L) (cells + c') (slots + n2) lsr hC
      ⟨by rw [hh]; exact hR2.1, by rw [hh]; exact hR2.2.1, hR2.2.2.1, hR2.2.2.2.1, by rw [hh]; exact hR2.2.2.2.2.1, fun x hx => by rcases List.mem_append.mp hx with hx | hx; exact hR.2.2.2.2.2 x hx; exact hR2.2.2.2.2.2 x hx⟩ hL h1 h2 (by omega) (by omega) T' rfl X'
    refine ⟨t2, fun acts => ?_, z2⟩
    rw [hin acts]
    refine hst'.trans ?_
    rw [ht]
    subst hpc
    exact s2
  | threw x =>
    obtain ⟨T', X', hW', hB', ht⟩ := X.outOfThrown (g := F0 m pc lsr rest) rfl hend hWm hsame
    have hh : T'.heap = t.heap := by rw [ht]; rfl
    obtain ⟨t2, s2, z2⟩ := hq p e R s m args below meth c T' (locs ++ L) (cells + c') (slots + n2) lsr rest hC
      ⟨by rw [hh]; exact hR2.1, by rw [hh]; exact hR2.2.1, hR2.2.2.1, hR2.2.2.2.1, by rw [hh]; exact hR2.2.2.2.2.1, fun x hx => by rcases List.mem_append.mp hx with hx | hx; exact hR.2.2.2.2.2 x hx; exact hR2.2.2.2.2.2 x hx⟩ hL h1 h2 (by omega) (by omega) X'
    refine ⟨t2, fun acts => ?_, z2⟩
    rw [hin acts]
    refine hst'.trans ?_
    rw [ht]
    exact s2
/-- the words of a callee's code -/
def ev_cd (M : ev_M) : Prop := plainName M.1.cls = true ∧ (M.1.cls ≠ "java/lang/invoke/MethodHandle" ∧ M.1.cls ≠ "java/lang/invoke/VarHandle") ∧ ((Cond.code M.1 M.2.1 M.2.2.1 M.2.2.2.1 ∈ lw_tbl ∧ M.2.2.2.2 = []) ∨ Cond.codeWith M.1 M.2.1 M.2.2.1 M.2.2.2.1 M.2.2.2.2 ∈ lw_tbl)
theorem ev_cd_spec {E : ev_E} {M0 M : ev_M} {p : Program} {s : State} {m0 : MethodId} {meth0 : Method} {c0 : Code} (hC : ev_C E M0 p s m0 meth0 c0) (hc : ev_cd M) : ∃ m meth c, s.methodNamed? M.1 = some m ∧ s.vm.method? m = some meth ∧ meth.code = some c ∧ c.code = M.2.1 ∧ c.maxLocals = M.2.2.1 ∧ meth.sig.returnType = M.2.2.2.1 ∧ meth.locks = false ∧ (c.exceptionTable.toList.map fun x => (x.startPc, x.endPc, x.handlerPc, x.catchType)) = M.2.2.2.2 ∧ parseMethodDescriptor M.1.desc = some meth.sig := by
  rcases hc.2.2 with ⟨h1, h2⟩ | h1
  · have hw := hC.w h1 (ev_gdT rfl) #[]
    obtain ⟨m, hn⟩ := Cond.code_named hw
    obtain ⟨meth, c, q1, q2, q3, q4, q5, q6, q7, q8⟩ := Cond.code_spec hn hw
    refine ⟨m, meth, c, hn, q1, q2, q3, q4, q5, q6, ?_, q8⟩
    have h0 : c.exceptionTable.size = 0 := by simpa [Array.isEmpty] using q7
    have h3 : c.exceptionTable.toList = [] := List.eq_nil_of_length_eq_zero (by simpa using h0)
    rw [h2, h3]; rfl
  · have hw := hC.w h1 (ev_gdT rfl) #[]
    obtain ⟨m, meth, c, q0, q1, q2, q3, q4, q5, q6, q7, q8⟩ := Cond.codeWith_spec hw
    exact ⟨m, meth, c, q0, q1, q2, q3, q4, q6, q7, q5, q8⟩
section EVC
variable {E : ev_E} {M M' : ev_M} {d pc pc' : Nat} {ls lk : List (Option Value)} {st rest As : List Value} {h : ev_h} {sz k n : Nat} {Q : ev_Q}
/-- how a callee's first locals are known -/
def ev_lk (As : List Value) (lk : List (Option Value)) (nL : Nat) : Prop := (∀ (i : Nat) (v : Value), lk[i]? = some (some v) → (ev_ar As)[i]? = some (some v)) ∧ (ev_ar As).length ≤ nL
theorem ev_lk_of {As : List Value} {lk : List (Option Value)} {nL j : Nat} (h : ev_ar As ++ List.replicate j none = lk) (hl : Nat.ble (ev_ar As).length nL = true) : ev_lk As lk nL := by
  replace hl := Nat.le_of_ble_eq_true hl
  subst h
  refine ⟨fun i v hi => ?_, hl⟩
  by_cases hlt : i < (ev_ar As).length
  · rwa [List.getElem?_append_left hlt] at hi
  · rw [List.getElem?_append_right (by omega), List.getElem?_replicate] at hi
    split at hi <;> cases hi
def ev_wS (own : String) (index : Nat) (M' : ev_M) : Prop := ev_cd M' ∧ Cond.static M'.1 ∈ lw_tbl ∧ Cond.initialized M'.1.cls ∈ lw_tbl ∧ (Cond.methodLink own index M'.1 ∈ lw_tbl ∨ ∃ host, Cond.methodLinkNest own index M'.1 host ∈ lw_tbl)
def ev_np (M' : ev_M) (j : Nat) : Prop := ∀ sig, parseMethodDescriptor M'.1.desc = some sig → j = sig.parameters.length
theorem ev_np_of {M' : ev_M} {j : Nat} (hh : (parseMethodDescriptor M'.1.desc).map (fun s => s.parameters.length) = some j) : ev_np M' j := by
  intro sig hs
  rw [hs] at hh
  exact (Option.some.inj hh).symm
theorem ev_callS {index : Nat} (hd : ev_d M pc (.invokestatic index) 3 pc') (hw : ev_wS M.1.cls index M') (As : List Value) (hst : st = As.reverse ++ rest) (hn : ev_np M' As.length)
    (hroom : Nat.ble ((rest.map fun v => v.category).sum + M'.2.2.1 + 11) 64 = true) (hlk : ev_lk As lk M'.2.2.1)
    (kk : Ev E M' d 0 lk [] h sz k n (ev_af E M (d + 1) pc pc' ls rest Q)) : Ev E M (d + 1) pc ls st h sz k n Q := by
  intro p e R s m args below meth c H locs cells slots lsr hC hR hL h1 h2 h3 h4 T hT X
  subst hT
  obtain ⟨hd, hpc⟩ := hd
  obtain ⟨mk, methk, ck, q0, q1, q2, q3, q4, q5, q6, q7, q8⟩ := ev_cd_spec hC hw.1
  have hstat : methk.isStatic = true := Cond.static_spec q0 q1 (hC.w hw.2.1 (ev_gdT rfl) args)
  obtain ⟨kP, hkP, -⟩ := className_of_methodNamed q0
  have hinit : kP.init = .initialized := Cond.initialized_spec (findClass_of_methodNamed q0) hkP (hC.w hw.2.2.1 (ev_gdT rfl) args)
  have hdc : decode c.code pc = .ok (.invokestatic index, 3) := by rw [hC.cd]; exact hd
  have go : ∃ vm', Stand p E.1 e R s m args below meth c (T.setVm vm') locs cells slots ∧
      ∀ target, (∀ acts, Steps p.tables e below (doInvoke e ((T.setVm vm').setTop (F0 m pc lsr rest)) acts mk As.toArray).1 target) → Steps p.tables e below (T.setTop (F0 m pc lsr st)) target := by
    rcases hw.2.2.2 with hl | ⟨host, hl⟩
    · exact X.invokestatic hC.ex hC.ow (hC.w hl (ev_gdT rfl) args) q0 q1 hstat hkP hinit hw.1.2.1 (g := F0 m pc lsr st) rfl (argsL := As) (rest := rest) (hn _ q8) hst hdc
    · exact X.invokestaticNest hC.ex hC.ow (hC.w hl ev_gdN args) q0 q1 hstat hkP hinit hw.1.2.1 (g := F0 m pc lsr st) rfl (argsL := As) (rest := rest) (hn _ q8) hst hdc
  obtain ⟨vm', X', st'⟩ := go
  obtain ⟨t, a1, z⟩ := ev_enter (T := T.setVm vm') hC hR hL h1 h2 h3 h4 X' hdc hpc q0 q1 q2 q3 q4 q5 q6 q7 hw.1.1 (Nat.le_of_ble_eq_true hroom) hlk.1 hlk.2 kk
  exact ⟨t, st' t a1, z⟩
/-- a method that the receiver's class has by that very name -/
def ev_wV (own : String) (index ci : Nat) (M' : ev_M) : Prop := ∃ (C : String) (T : u_T) (N : Nat), ev_cl[ci]? = some (C, T, N) ∧ ev_cd M' ∧ Cond.instanceMethod M'.1 ∈ lw_tbl ∧ Cond.selects C M'.1 M'.1 ∈ lw_tbl ∧ (Cond.methodLink own index M'.1 ∈ lw_tbl ∨ ∃ host, Cond.methodLinkNest own index M'.1 host ∈ lw_tbl)
theorem ev_callV {index a ci : Nat} {fs : List Value} (hd : ev_d M pc (.invokevirtual index) 3 pc') (hw : ev_wV M.1.cls index ci M') (he : h a = some (.inr (ci, fs))) (As : List Value) (hst : st = As.reverse ++ .ref a :: rest) (hn : ev_np M' As.length)
    (hroom : Nat.ble ((rest.map fun v => v.category).sum + M'.2.2.1 + 11) 64 = true) (hlk : ev_lk (.ref a :: As) lk M'.2.2.1)
    (kk : Ev E M' d 0 lk [] h sz k n (ev_af E M (d + 1) pc pc' ls rest Q)) : Ev E M (d + 1) pc ls st h sz k n Q := by
  intro p e R s m args below meth c H locs cells slots lsr hC hR hL h1 h2 h3 h4 T hT X
  subst hT
  obtain ⟨hd, hpc⟩ := hd
  obtain ⟨C, TT, NN, hc, hcd, hin, hse, hlink⟩ := hw
  obtain ⟨mk, methk, ck, q0, q1, q2, q3, q4, q5, q6, q7, q8⟩ := ev_cd_spec hC hcd
  obtain ⟨mk', methM, hnamed, hmethM, hstM, habM⟩ := Cond.instanceMethod_spec (hC.w hin (ev_gdT rfl) args)
  cases q0.symm.trans hnamed
  cases q1.symm.trans hmethM
  obtain ⟨cellB, hcell, hobj, hcls⟩ := va_recv hC.K (ev_P1 (hR.1 a _ he)) hc (q0 := 0) rfl
  obtain ⟨c2, r2, m2, g1, g2, g3, g4, kP, hkP, hkPi⟩ := Cond.selects_spec (hC.w hse (ev_gdT rfl) args)
  cases hcls.symm.trans g1
  cases (State.methodFound?_of_named hnamed hcd.2.1).symm.trans g2
  cases hnamed.symm.trans g3
  have hselP : selectMethod e.platform s.vm cellB.cls mk = .method mk := by rw [Launch.admits_selectMethod X.admits]; exact g4
  have hdc : decode c.code pc = .ok (.invokevirtual index, 3) := by rw [hC.cd]; exact hd
  have go : ∃ vm', Stand p E.1 e R s m args below meth c (T.setVm vm') locs cells slots ∧
      ∀ target, (∀ acts, Steps p.tables e below (doInvoke e ((T.setVm vm').setTop (F0 m pc lsr rest)) acts mk (Value.ref a :: As).toArray).1 target) → Steps p.tables e below (T.setTop (F0 m pc lsr st)) target := by
    rcases hlink with hl | ⟨host, hl⟩
    · exact X.invokevirtual hC.ex hC.ow (hC.w hl (ev_gdT rfl) args) hnamed hmethM hstM hkP hkPi hcd.2.1 (a := a) (cell := cellB) hcell (fun z h => by rw [h] at hobj; cases hobj) hselP hmethM habM hkP hkPi (g := F0 m pc lsr st) rfl (argsL := As) (rest := rest) (hn _ q8) hst hdc
    · exact X.invokevirtualNest hC.ex hC.ow (hC.w hl ev_gdN args) hnamed hmethM hstM hkP hkPi hcd.2.1 (a := a) (cell := cellB) hcell (fun z h => by rw [h] at hobj; cases hobj) hselP hmethM habM hkP hkPi (g := F0 m pc lsr st) rfl (argsL := As) (rest := rest) (hn _ q8) hst hdc
  obtain ⟨vm', X', st'⟩ := go
  obtain ⟨t, a1, z⟩ := ev_enter (T := T.setVm vm') (As := Value.ref a :: As) hC hR hL h1 h2 h3 h4 X' hdc hpc q0 q1 q2 q3 q4 q5 q6 q7 hcd.1 (Nat.le_of_ble_eq_true hroom) hlk.1 hlk.2 kk
  exact ⟨t, st' t a1, z⟩
/-- a method that is called by another class's name: x as the site spells it, owner: who declares it -/
def ev_wU (own : String) (index ci : Nat) (x : MethodName) (M' : ev_M) : Prop := ∃ (C owner : String) (T : u_T) (N : Nat), ev_cl[ci]? = some (C, T, N) ∧ ev_cd M' ∧ Cond.instanceMethod M'.1 ∈ lw_tbl ∧ Cond.selects C x M'.1 ∈ lw_tbl ∧ Cond.methodLink own index x ∈ lw_tbl ∧ Cond.sameMethod x.cls owner x.name x.desc ∈ lw_tbl ∧ (Cond.declares ⟨owner, x.name, x.desc⟩ ∈ lw_tbl ∨ (Cond.instanceMethod ⟨owner, x.name, x.desc⟩ ∈ lw_tbl ∧ ∃ bs mL rt, Cond.code ⟨owner, x.name, x.desc⟩ bs mL rt ∈ lw_tbl)) ∧ (owner ≠ "java/lang/invoke/MethodHandle" ∧ owner ≠ "java/lang/invoke/VarHandle")
theorem ev_callU {index a ci : Nat} {x : MethodName} {fs : List Value} (hd : ev_d M pc (.invokevirtual index) 3 pc') (hw : ev_wU M.1.cls index ci x M') (he : h a = some (.inr (ci, fs))) (As : List Value) (hst : st = As.reverse ++ .ref a :: rest) (hn : ∀ sig, parseMethodDescriptor x.desc = some sig → As.length = sig.parameters.length)
    (hroom : Nat.ble ((rest.map fun v => v.category).sum + M'.2.2.1 + 11) 64 = true) (hlk : ev_lk (.ref a :: As) lk M'.2.2.1)
    (kk : Ev E M' d 0 lk [] h sz k n (ev_af E M (d + 1) pc pc' ls rest Q)) : Ev E M (d + 1) pc ls st h sz k n Q := by
  intro p e R s m args below meth c H locs cells slots lsr hC hR hL h1 h2 h3 h4 T hT X
  subst hT
  obtain ⟨hd, hpc⟩ := hd
  obtain ⟨C, owner, TT, NN, hc, hcd, hin, hse, hl, hsame, hdcl, hnot⟩ := hw
  obtain ⟨mk, methk, ck, q0, q1, q2, q3, q4, q5, q6, q7, q8⟩ := ev_cd_spec hC hcd
  obtain ⟨mk', methM, hnamed, hmethM, hstM, habM⟩ := Cond.instanceMethod_spec (hC.w hin (ev_gdT rfl) args)
  cases q0.symm.trans hnamed
  cases q1.symm.trans hmethM
  obtain ⟨r0, r, hn0, hrm, hstR, hsigR⟩ : ∃ m meth, s.methodNamed? ⟨owner, x.name, x.desc⟩ = some m ∧ s.vm.method? m = some meth ∧ meth.isStatic = false ∧ parseMethodDescriptor x.desc = some meth.sig := by
    rcases hdcl with hdcl | ⟨hd1, bs, mL, rt, hd2⟩
    · exact Cond.declares_spec (hC.w hdcl ev_gdD args)
    · obtain ⟨r0, r, a1, a2, a3, -⟩ := Cond.instanceMethod_spec (hC.w hd1 (ev_gdT rfl) args)
      obtain ⟨r', c', b1, b2, b3, b4, b5, b6, b7, b8⟩ := Cond.code_spec a1 (hC.w hd2 (ev_gdT rfl) args)
      cases a2.symm.trans b1
      exact ⟨r0, r, a1, a2, a3, b8⟩
  have hsm := hC.w hsame (ev_gdT rfl) args
  obtain ⟨cn, ck0, r1, hcn, hck0, hni, hf, hn1⟩ := Cond.sameMethod_found hsm
  cases hn0.symm.trans hn1
  obtain ⟨cellB, hcell, hobj, hcls⟩ := va_recv hC.K (ev_P1 (hR.1 a _ he)) hc (q0 := 0) rfl
  obtain ⟨c2, r2, m2, g1, g2, g3, g4, kP, hkP, hkPi⟩ := Cond.selects_spec (hC.w hse (ev_gdT rfl) args)
  cases hcls.symm.trans g1
  cases hf.symm.trans g2
  cases hnamed.symm.trans g3
  have hselP : selectMethod e.platform s.vm cellB.cls r0 = .method mk := by rw [Launch.admits_selectMethod X.admits]; exact g4
  have hdc : decode c.code pc = .ok (.invokevirtual index, 3) := by rw [hC.cd]; exact hd
  obtain ⟨vm', X', st'⟩ := X.invokevirtualUp hC.ex hC.ow (hC.w hl (ev_gdT rfl) args) hsm hnot hn0 hrm hstR (a := a) (cell := cellB) hcell (fun z h => by rw [h] at hobj; cases hobj) hselP hmethM habM hkP hkPi (g := F0 m pc lsr st) rfl (argsL := As) (rest := rest) (hn _ hsigR) hst hdc
  obtain ⟨t, a1, z⟩ := ev_enter (T := T.setVm vm') (As := Value.ref a :: As) hC hR hL h1 h2 h3 h4 X' hdc hpc q0 q1 q2 q3 q4 q5 q6 q7 hcd.1 (Nat.le_of_ble_eq_true hroom) hlk.1 hlk.2 kk
  exact ⟨t, st' t a1, z⟩
/-- a constructor -/
def ev_wI (own : String) (index : Nat) (M' : ev_M) : Prop := ev_cd M' ∧ M'.1.name = "<init>" ∧ M'.2.2.2.1 = none ∧ Cond.instanceMethod M'.1 ∈ lw_tbl ∧ Cond.code M'.1 M'.2.1 M'.2.2.1 M'.2.2.2.1 ∈ lw_tbl ∧ (Cond.methodLink own index M'.1 ∈ lw_tbl ∨ ∃ host, Cond.methodLinkNest own index M'.1 host ∈ lw_tbl)
theorem ev_callI {index a : Nat} (hd : ev_d M pc (.invokespecial index) 3 pc') (hw : ev_wI M.1.cls index M') (As : List Value) (hst : st = As.reverse ++ .ref a :: rest) (hn : ev_np M' As.length)
    (hroom : Nat.ble ((rest.map fun v => v.category).sum + M'.2.2.1 + 11) 64 = true) (hlk : ev_lk (.ref a :: As) lk M'.2.2.1)
    (kk : Ev E M' d 0 lk [] h sz k n (ev_af E M (d + 1) pc pc' ls rest Q)) : Ev E M (d + 1) pc ls st h sz k n Q := by
  intro p e R s m args below meth c H locs cells slots lsr hC hR hL h1 h2 h3 h4 T hT X
  subst hT
  obtain ⟨hd, hpc⟩ := hd
  obtain ⟨hcd, hini, hret, hin, hcode, hlink⟩ := hw
  obtain ⟨mk, methk, ck, q0, q1, q2, q3, q4, q5, q6, q7, q8⟩ := ev_cd_spec hC hcd
  have hpl : e.platform.magicAccessors = ({} : Platform).magicAccessors := by rw [X.admits.platform]
  have hdc : decode c.code pc = .ok (.invokespecial index, 3) := by rw [hC.cd]; exact hd
  have hcode' : (Cond.code M'.1 M'.2.1 M'.2.2.1 none).before args s = true := by rw [← hret]; exact hC.w hcode (ev_gdT rfl) args
  have go : ∃ vm', Stand p E.1 e R s m args below meth c (T.setVm vm') locs cells slots ∧
      ∀ target, (∀ acts, Steps p.tables e below (doInvoke e ((T.setVm vm').setTop (F0 m pc lsr rest)) acts mk (Value.ref a :: As).toArray).1 target) → Steps p.tables e below (T.setTop (F0 m pc lsr st)) target := by
    rcases hlink with hl | ⟨host, hl⟩
    · obtain ⟨mk', methM, cM, kP, vm₁, hnamed, hmethM, hcodeM, -, hlocalsM, -, hkP, -, hW₁, hstep₁⟩ := Steps.initColdArgs (e := e) X.here hC.ex X.warmed hpl hC.ow hini hcd.2.1 (hC.w hl (ev_gdT rfl) args) (hC.w hin (ev_gdT rfl) args) hcode' (f := F0 m pc lsr st) rfl (argsL := As) (rest := rest) hn hst hdc
      cases q0.symm.trans hnamed
      exact ⟨vm₁, X.noted hW₁, hstep₁⟩
    · obtain ⟨mk', methM, cM, kP, vm₁, hnamed, hmethM, hcodeM, -, hlocalsM, -, hkP, -, hW₁, hstep₁⟩ := Steps.initColdArgsNest (e := e) X.here hC.ex X.warmed hpl hC.ow hini hcd.2.1 (hC.w hl ev_gdN args) (hC.w hin (ev_gdT rfl) args) hcode' (f := F0 m pc lsr st) rfl (argsL := As) (rest := rest) hn hst hdc
      cases q0.symm.trans hnamed
      exact ⟨vm₁, X.noted hW₁, hstep₁⟩
  obtain ⟨vm', X', st'⟩ := go
  obtain ⟨t, a1, z⟩ := ev_enter (T := T.setVm vm') (As := Value.ref a :: As) hC hR hL h1 h2 h3 h4 X' hdc hpc q0 q1 q2 q3 q4 q5 q6 q7 hcd.1 (Nat.le_of_ble_eq_true hroom) hlk.1 hlk.2 kk
  exact ⟨t, st' t a1, z⟩
end EVC
