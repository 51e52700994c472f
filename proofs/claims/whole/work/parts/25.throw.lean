/-! Ev: exceptions: made and thrown, passed on, caught. -/
section RB
variable {p : Program} {l : Launch} {e : Env} {R : Room} {s : State} {m : MethodId} {args : Array Value} {below : List Frame} {meth : Method} {c : Code} {T : State} {locs : List Loc} {cells slots : Nat}
/-- a walk rooted anew at the present state -/
theorem ev_rebase (X : Stand p l e R s m args below meth c T locs cells slots) (hc : cells ≤ R.cells) (hs : slots ≤ R.slots) :
    Stand p l e { frames := R.frames, cells := R.cells - cells, slots := R.slots - slots, locals := R.locals } (T.setFrames (.invoking m args :: below)) m args below meth c T [] 0 0 := by
  obtain ⟨g₀, hfr⟩ := X.frames_eq
  have hcur : T.cur < T.threads.size := State.cur_lt_of_frames hfr
  have hF : (T.setFrames (.invoking m args :: below)).frames = .invoking m args :: below := State.frames_setFrames _ hcur
  have hmeth : (T.setFrames (.invoking m args :: below)).vm.method? m = some meth := X.method'
  obtain ⟨t, ht, -⟩ := State.frames_cons hF
  have hcur' : (T.setFrames (.invoking m args :: below)).cur < (T.setFrames (.invoking m args :: below)).threads.size := State.cur_lt_of_frames hF
  refine ⟨X.admits, X.cas, X.clock, hF, ?_, ?_, hmeth, X.code, X.here, X.tail, State.WarmedH.refl _, by rw [State.stackLimits_setFrames], by rw [State.stackBytes_setFrames], ?_⟩
  · have h := X.room
    have r := State.hasRoom_stack X.room
    have r5 := State.hasRoom_real X.room
    have hz := X.heapSize
    have hu := X.used
    have hk := X.book
    simp only [State.hasRoom, Bool.and_eq_true, decide_eq_true_eq] at h
    rw [State.localsInUse_invoking X.frames X.method X.code] at r r5
    rw [X.frames, List.length_cons] at r
    simp only [State.hasRoom, Bool.and_eq_true, decide_eq_true_eq, hF, State.localsInUse_invoking hF hmeth X.code, List.length_cons, State.stackLimits_setFrames, State.stackBytes_setFrames, X.limits, X.bytes]
    refine ⟨⟨⟨⟨by omega, by omega, by omega, by omega, by omega, h.1.1.1.2.2.2.2.2⟩, ?_⟩, ?_⟩, hk⟩
    · have := h.1.1.2
      show T.heap.size + (R.cells - cells) ≤ _
      omega
    · have := h.1.2
      show T.slotsUsed + (R.slots - slots) ≤ _
      omega
  · have hh := X.hears
    rcases below with _ | ⟨y, r⟩
    · simpa [State.hears, X.warmed.alike.method?] using hh
    · cases y <;> simpa [State.hears, State.code?_eq, X.warmed.alike.method?] using hh
  · have h := (State.sameButNew.refl (T.setFrames (.invoking m args :: below)) ht).setFrames T.frames hcur'
    have e1 : (T.setFrames (.invoking m args :: below)).setFrames T.frames = T := by
      rw [State.setFrames_setFrames]
      obtain ⟨th, hth, -⟩ := State.frames_cons hfr
      exact State.setFrames_self hth
    rw [e1] at h
    exact h
end RB
/-- words of statics: what the heap's old cells say -/
theorem ev_stat_at {s U : State} {A B : Array Value} {C f ds : String} (hW : s.WarmedH U.vm) (hh : ∀ q : Nat, q < s.heap.size → U.heap[q]? = s.heap[q]?) (h : (Cond.isRef (.static C f ds)).before A s = true) : (Cond.isRef (.static C f ds)).before B U = true := by
  have h1 : (Cond.isRef (.static C f ds)).before A (s.setVm U.vm) = true := Cond.before_shiftedFace (State.Shifted.of_warmed hW) _ rfl h
  have hF : (s.setVm U.vm).fieldNamed? C f ds true = U.fieldNamed? C f ds true := rfl
  simp only [Cond.before, Cond.holds, Cond.value, Term.eval, hF] at h1 ⊢
  cases hN : U.fieldNamed? C f ds true with
  | none => simp [hN] at h1
  | some x =>
    obtain ⟨cc, k, slot⟩ := x
    simp only [hN, Option.bind_eq_bind, Option.bind_some] at h1 ⊢
    cases hk : k.statics with
    | none => simp [hk] at h1
    | some a =>
      simp only [hk, Option.bind_some] at h1 ⊢
      have hs : (s.setVm U.vm).heap[a]? = s.heap[a]? := rfl
      rw [hs] at h1
      cases hc : s.heap[a]? with
      | none => simp [hc] at h1
      | some cell =>
        have hlt : a < s.heap.size := (Array.getElem?_eq_some_iff.mp hc).1
        rw [hh a hlt, hc]
        rw [hc] at h1
        exact h1
theorem ev_lstat_at {s U : State} {A B : Array Value} {C f ds : String} (hW : s.WarmedH U.vm) (hh : ∀ q : Nat, q < s.heap.size → U.heap[q]? = s.heap[q]?) (h : (Cond.laysStatic C f ds).before A s = true) : (Cond.laysStatic C f ds).before B U = true := by
  obtain ⟨c, k, i, fd, a, cell, hc, hf, hst, hsta, hcell, hiss, hcls, hlt, hty⟩ := Cond.laysStatic_spec h
  obtain ⟨k', hf', hk'⟩ := State.fieldFound?_setVm (s := s) hW.alike hf
  have hf2 : U.fieldFound? C f ds = some (c, k', i, fd) := by simpa only [State.fieldFound?, State.vm_setVm] using hf'
  have hc2 : U.vm.findClass C = some c := by rw [hW.alike.findClass]; exact hc
  have hlt2 : a < s.heap.size := (Array.getElem?_eq_some_iff.mp hcell).1
  have hcell2 : U.heap[a]? = some cell := by rw [hh a hlt2]; exact hcell
  have e1 : k'.statics = some a := by rw [hk']; exact hsta
  have e2 : k'.staticTypes[fd.slot]? = some fd.type := by rw [hk']; exact hty
  simp [Cond.before, Cond.holds, Cond.value, hc2, hf2, hst, e1, hcell2, hiss, hcls, hlt, e2]
/-- which words stay true, as a program -/
def ev_gdb (w : Cond) : Bool := (w.onTables && w.keeps) || match w with
  | .declares _ => true
  | .castable _ _ => true
  | _ => false
theorem ev_gdb_ok {w : Cond} (h : ev_gdb w = true) : ev_gd w := by
  unfold ev_gdb at h
  rw [Bool.or_eq_true] at h
  rcases h with h | h
  · exact ev_gdT h
  · split at h
    · exact ev_gdD
    · exact ev_gdC
    · cases h
/-- what a site 'throw new X(text)' asks of the tables -/
def ev_wT (own : String) (ix il ic ci : Nat) (X tx : String) (names : List String) : Prop :=
  (∀ w ∈ Bundle.ownAtoms own ic X names, (w ∈ lw_tbl ∧ ev_gdb w = true) ∨ w ∈ ev_stat) ∧ Cond.classLink own ix X ∈ lw_tbl ∧ Cond.initialized X ∈ lw_tbl ∧ Bundle.fit X = true ∧ (∀ q ∈ names, Bundle.fit q = true) ∧ (own, il, tx) ∈ ev_strs ∧ (∃ T : u_T, ev_cl[ci]? = some (X, T, 0)) ∧ names.length ≤ 3
theorem ev_stat_ok {E : ev_E} {U : State} {args : Array Value} (hE : ev_ok E) (hW : E.2.2.2.1.WarmedH U.vm) (hh : ∀ q : Nat, q < ev_b E → U.heap[q]? = E.2.2.2.1.heap[q]?) {w : Cond} (hw : w ∈ ev_stat) : w.before args U = true := by
  have h := hE.2.2.2.2 w hw
  simp only [ev_stat, List.mem_cons, List.not_mem_nil, or_false] at hw
  rcases hw with rfl | rfl | rfl | rfl
  · exact ev_stat_at hW hh h
  · exact ev_stat_at hW hh h
  · exact ev_lstat_at hW hh h
  · exact ev_lstat_at hW hh h
/-- a text constant by ldc_w -/
theorem ev_ldcwS {p : Program} {l : Launch} {e : Env} {R : Room} {s : State} {m : MethodId} {args : Array Value} {below : List Frame} {meth : Method} {c : Code} {H : Heap} {locs : List Loc} {cells slots : Nat} {Q : State → Prop} {cc : ByteArray} {pc : Nat} {ls : Array Slot} {rest : List Value}
    (hexec : p.tables.exec = Jvm.exec) (hb : c.code = cc) {own tx : String} {index q : Nat} (hown : s.vm.findClass own = some m.cls) (hZ : vk_R own index tx q s) (hdg : decode cc pc = .ok (.ldc_w index, 3))
    (k : W p l e R s m args below meth c H locs cells slots Q (F0 m (pc + 3) ls (.ref q :: rest))) : W p l e R s m args below meth c H locs cells slots Q (F0 m pc ls rest) := by
  intro T hT X
  obtain ⟨t, a1, b1⟩ := k T hT X
  refine ⟨t, ?_, b1⟩
  obtain ⟨kk, cf, i, a', hk, hcf, hcp, -, hr, hev'⟩ := Cond.stringRef_spec hown hZ.1
  cases hZ.2.symm.trans hev'
  obtain ⟨k', hk', he⟩ := X.warmed.alike.2.2 _ _ hk
  have hr' : k'.resolved[index]? = some (some (.string q)) := by
    rcases X.warmed.entry hk hk' index with h | ⟨h, -⟩
    · rw [h]; exact hr
    · rw [hr] at h; cases h
  jvm_step X.here [hexec, hb, hdg, ldc_w.wp_string (e := e) (s := T) (f := F0 m pc ls rest) X.here.top hk' (by rw [he]; exact hcf) hcp hr']
  exact a1
section EVT
variable {E : ev_E} {M : ev_M} {d pc : Nat} {ls : List (Option Value)} {st : List Value} {h : ev_h} {sz k n : Nat} {Q : ev_Q}
theorem ev_throwG {p1 p2 p3 p4 p5 ix il ic ci LN : Nat} {LI : Instr} {XX tx : String} {names : List String} (hLI : (LI = .ldc il ∧ LN = 2) ∨ (LI = .ldc_w il ∧ LN = 3)) (hd0 : ev_d M pc (.new ix) 3 p1) (hd1 : ev_d M p1 .dup 1 p2) (hd2 : ev_d M p2 LI LN p3) (hd3 : ev_d M p3 (.invokespecial ic) 3 p4) (hd4 : ev_d M p4 .athrow 1 p5)
    (hnone : M.2.2.2.2 = []) (hw : ev_wT M.1.cls ix il ic ci XX tx names) (hst : Nat.ble (st.map fun v => v.category).sum 64 = true) (hq : Q (.threw sz) (ev_up h sz (.inr (ci, []))) (sz + 1) k n) : Ev E M (d + 8) pc ls st h sz (k + 1) (n + 6) Q := by
  intro p e R s m args below meth c H locs cells slots lsr hC hR hL h1 h2 h3 h4 T hT X
  replace hst := Nat.le_of_ble_eq_true hst
  subst hT
  obtain ⟨hd0, rfl⟩ := hd0
  obtain ⟨hd1, rfl⟩ := hd1
  obtain ⟨hd2, hp3⟩ := hd2
  obtain ⟨hd3, rfl⟩ := hd3
  obtain ⟨hd4, -⟩ := hd4
  obtain ⟨hown, hcl, hini, hfit, hnames, hstr, ⟨TX, hci⟩, hlen⟩ := hw
  have hsz : T.heap.size = sz := hR.2.1
  have X0 := ev_rebase X (by omega) (by omega)
  have hWs : E.2.2.2.1.WarmedH T.vm := State.WarmedH.trans hC.wm X.warmed
  have hxt : c.exceptionTable.toList = [] := by
    have := hC.xt
    rw [hnone] at this
    exact List.map_eq_nil_iff.mp this
  have htr : e.platform.stackTraces = false := by rw [X.admits.platform]; exact hC.1.2.2.2.1
  generalize hs' : T.setFrames (.invoking m args :: below) = s' at X0
  have hvm : s'.vm = T.vm := by rw [← hs']; rfl
  have hhp : s'.heap = T.heap := by rw [← hs']; rfl
  have hWs' : E.2.2.2.1.WarmedH s'.vm := by rw [hvm]; exact hWs
  have wd : ∀ w, w ∈ lw_tbl → ev_gd w → w.before args s' = true := fun w hw hg => hg _ _ _ _ hWs' (hC.1.1 w hw)
  have hbz : ∀ q : Nat, q < ev_b E → s'.heap[q]? = E.2.2.2.1.heap[q]? := by rw [hhp]; exact hR.2.2.2.2.1
  have hown' : s'.vm.findClass M.1.cls = some m.cls := by rw [hvm, X.warmed.alike.findClass]; exact hC.ow
  have hatoms : ∀ w ∈ Bundle.ownAtoms M.1.cls ic XX names, w.before args s' = true := fun w hw => by
    rcases hown w hw with ⟨g1, g2⟩ | g1
    · exact wd w g1 (ev_gdb_ok g2)
    · exact ev_stat_ok hC.1 hWs' hbz g1
  obtain ⟨ad, had⟩ := hC.1.2.2.1 _ hstr
  have hZ : vk_R M.1.cls il tx ad s' := vk_R.warm hWs' had
  have hK' : va_K E.2.1 ev_cl (ev_tys E.2.2.1) s' := va_K.moved hWs'.alike hC.1.2.1
  have hcX : s'.vm.findClass XX = some (E.2.1.1 ci) := (hK'.1 ci _ hci).2.1
  have kw : W p E.1 e { frames := R.frames, cells := R.cells - cells, slots := R.slots - slots, locals := R.locals } s' m args below meth c T.heap [] 0 0
      (fun U => U.status = .running ∧ Ended U below (.threw sz) ∧ s'.WarmedH U.vm ∧ s'.sameButNew ({ U with vm := s'.vm } : State) [] 1 6 ∧ ∃ ce : Cell, U.heap[sz]? = some ce ∧ ce.cls = E.2.1.1 ci ∧ ce.vm = .none) (F0 m pc lsr st) := by
    refine W.newcK hC.ex hC.cd hown' (wd _ hcl (ev_gdT rfl)) (hatoms (.instantiable XX 6) (by simp [Bundle.ownAtoms])) (wd _ hini (ev_gdT rfl)) rfl hd0 (by show 0 + 1 ≤ R.cells - cells; omega) (by show 0 + 6 ≤ R.slots - slots; omega) hcX hsz fun H1 kX hkX e1 z1 o1 => ?_
    refine lv_dup hC.ex hC.cd hd1 rfl ?_
    have tail : W p E.1 e { frames := R.frames, cells := R.cells - cells, slots := R.slots - slots, locals := R.locals } s' m args below meth c H1 [] (0 + 1) (0 + 6)
        (fun U => U.status = .running ∧ Ended U below (.threw sz) ∧ s'.WarmedH U.vm ∧ s'.sameButNew ({ U with vm := s'.vm } : State) [] 1 6 ∧ ∃ ce : Cell, U.heap[sz]? = some ce ∧ ce.cls = E.2.1.1 ci ∧ ce.vm = .none) (F0 m p3 lsr (.ref ad :: .ref sz :: .ref sz :: st)) := by
      intro T2 hT2 X2
      obtain ⟨U, hsteps, hrun, hend, hWU, hsame, ce, hce, K⟩ := X2.ctorThrowS hC.ex htr (own := M.1.cls) (cls := XX) (names := names) (ic := ic) hown' hfit hnames hatoms (fun y hy => by cases hy) hcX hkX (a := sz) (by rw [hT2]; exact e1) (by rw [hhp, hsz]; exact Nat.le_refl _) (msg := .ref ad) rfl
        (g := F0 m p3 lsr (.ref ad :: .ref sz :: .ref sz :: st)) rfl (hL.1.trans hC.ml.symm) rfl rfl (rest := st) rfl (by rw [hC.cd]; exact hd3) (by rw [hC.cd]; exact hd4) (fun x hx => by rw [hxt] at hx; cases hx) (by show names.length + 3 < R.frames; omega)
        (by show 2 * 0 + (1 + (st.map fun v => v.category).sum) + (13 * (names.length + 1) + 42) ≤ R.locals; omega) hC.lk
      exact ⟨U, hsteps, hrun, hend, hWU, hsame, ce, hce, Option.some.inj (K.cls.symm.trans hcX), K.vm⟩
    rcases hLI with ⟨rfl, rfl⟩ | ⟨rfl, rfl⟩
    · exact va_ldcS hC.ex hC.cd hown' hZ hd2 (by rw [hp3]; exact tail)
    · exact ev_ldcwS hC.ex hC.cd hown' hZ hd2 (by rw [hp3]; exact tail)
  obtain ⟨U, hsteps, hrun, hend, hWU, hsame, ce, hce, hce1, hce2⟩ := kw T rfl X0
  obtain ⟨e2, q2, q3, q4, q5, q6⟩ := hsame
  have hold : ∀ q : Nat, q < T.heap.size → U.heap[q]? = T.heap[q]? := by
    intro q hq
    have hcq : s'.heap[q]? = some T.heap[q] := by rw [hhp]; exact Array.getElem?_eq_getElem hq
    obtain ⟨c', g1, g2, g3, g4⟩ := q6 q _ hcq
    have g1' : U.heap[q]? = some c' := g1
    have hsl : c'.slots = (T.heap[q]).slots := Array.ext_getElem? fun i => g4 i (by simp)
    rw [g1', g2, hsl]
    exact (Array.getElem?_eq_getElem hq).symm
  have hUz : U.heap.size = sz + 1 := by
    have a1 : sz < U.heap.size := (Array.getElem?_eq_some_iff.mp hce).1
    have a2 : U.heap.size ≤ s'.heap.size + 1 := q3
    rw [hhp] at a2
    omega
  have hB : T.sameButNew (({ U with vm := s'.vm } : State)) [] 1 6 := by
    have e3 := e2
    rw [← hs', State.setFrames_setFrames] at e3
    subst hs'
    exact ⟨e3, q2, q3, q4, q5, q6⟩
  refine ⟨U, hsteps, .threw sz, ev_up h sz (.inr (ci, [])), sz + 1, k, n, locs ++ [], cells + 1, slots + 6, hrun, hend, ?_, ?_, ?_, by omega, by omega, hq⟩
  · refine State.WarmedH.trans X.warmed ?_
    rw [← hs'] at hWU
    exact hWU
  · exact X.same.trans (hB.setVm s.vm)
  · rw [List.append_nil]
    refine ev_R_new hR ⟨_, hci, ce, hce, hce1, hce2, fun j hj => ?_⟩ hUz (fun q hq => hold q (by omega))
    exact absurd hj (Nat.not_lt_zero _)
theorem ev_throw {p1 p2 p3 p4 p5 ix il ic ci : Nat} {XX tx : String} {names : List String} (hd0 : ev_d M pc (.new ix) 3 p1) (hd1 : ev_d M p1 .dup 1 p2) (hd2 : ev_d M p2 (.ldc il) 2 p3) (hd3 : ev_d M p3 (.invokespecial ic) 3 p4) (hd4 : ev_d M p4 .athrow 1 p5)
    (hnone : M.2.2.2.2 = []) (hw : ev_wT M.1.cls ix il ic ci XX tx names) (hst : Nat.ble (st.map fun v => v.category).sum 64 = true) (hq : Q (.threw sz) (ev_up h sz (.inr (ci, []))) (sz + 1) k n) : Ev E M (d + 8) pc ls st h sz (k + 1) (n + 6) Q := ev_throwG (Or.inl ⟨rfl, rfl⟩) hd0 hd1 hd2 hd3 hd4 hnone hw hst hq
/-- no handler: on to the caller -/
theorem ev_out {a : Nat} (hnone : M.2.2.2.2 = []) (hq : Q (.threw a) h sz k n) : Et E M d pc ls a h sz k n Q := by
  intro p e R s m args below meth c T locs cells slots lsr st hC hR hL h1 h2 h3 h4 X
  have hxt : c.exceptionTable.toList = [] := by
    have := hC.xt
    rw [hnone] at this
    exact List.map_eq_nil_iff.mp this
  obtain ⟨hwalk, hrun, hend, hW, hsame⟩ := X.leaveThrown a (g := F0 m pc lsr st) rfl rfl rfl (fun x hx => by rw [hxt] at hx; cases hx) hC.lk
  exact ⟨_, hwalk, .threw a, h, sz, k, n, locs, cells, slots, hrun, hend, hW, hsame, hR, h3, h4, hq⟩
end EVT
/-- the search of one frame's table, with the tables that it leaves -/
def ev_Fi (e : Env) (s : State) (f : JFrame) (a : Addr) (hd : Handler) (vm' : Vm) : Prop :=
  ∀ (Q : Handler → Jvm.Pre) (E : Jvm.CtlPost) (d : Bool) (acts : List Action), Sem.wp (findHandler f a) Q E e d acts s ↔ Q hd d acts (s.setVm vm')
section EGO
variable {Q : Handler → Jvm.Pre} {E : Jvm.CtlPost} {e : Env} {d : Bool} {acts : List Action} {s : State} {f : JFrame} {a : Addr} {x : ClassFile.ExceptionTableEntry} {t : List ClassFile.ExceptionTableEntry} {c : ClassId} {cell : Cell}
theorem ev_go (hx : covers x f.pc = true) (h0 : x.catchType ≠ 0)
    (hl : s.vm.ClassLinks e.platform f.method.cls x.catchType c) (hcell : s.heap[a]? = some cell) (hobj : ∀ k, cell.vm ≠ .statics k)
    (hk : ∃ k, s.vm.classes[cell.cls]? = some k) (hc : ∃ k, s.vm.classes[c]? = some k) :
    Sem.wp (findHandler.go f a (x :: t)) Q E e d acts s ↔ if s.vm.assignable cell.cls c = true then Q (.found x.handlerPc) d acts (s.setVm (s.vm.noted f.method.cls x.catchType (.cls c))) else Sem.wp (findHandler.go f a t) Q E e d acts (s.setVm (s.vm.noted f.method.cls x.catchType (.cls c))) := by
  simp only [covers] at hx
  obtain ⟨ha, ht⟩ := (resolveClass_links e.toSetting hl).op (op := VmOp.resolveClass f.method.cls x.catchType) rfl
  have hal : s.vm.Alike (s.vm.noted f.method.cls x.catchType (.cls c)) := (Vm.Alike.refl s.vm).noted _ _ _
  obtain ⟨k1, hk1⟩ := hk
  obtain ⟨k2, hk2⟩ := hc
  obtain ⟨k1', hk1', -⟩ := hal.2.2 _ _ hk1
  obtain ⟨k2', hk2', -⟩ := hal.2.2 _ _ hk2
  have hfit' : (s.vm.noted f.method.cls x.catchType (.cls c)).assignable cell.cls c = s.vm.assignable cell.cls c := hal.assignable _ _
  cases hfit : s.vm.assignable cell.cls c <;> rw [hfit] at hfit' <;>
    simp [findHandler.go, hx, h0, ha, ht, hcell, hobj, hk1', hk2', hfit', VmOp.dirties, VmOp.acts]
end EGO
theorem ev_step_catch {e : Env} {s : State} {a : Addr} {f : JFrame} {r : List Frame} {pc : Nat} {vm' : Vm} (hfind : ev_Fi e s f a (.found pc) vm') :
    (stepThrowing e s a (.java f :: r)).Is ((s.setVm vm').setFrames (.java { f with pc := pc, stack := [.ref a] } :: r)) [] := by
  simp only [stepThrowing, searchFrame, vmDo]
  generalize hr : Sem.go _ e false [] s = res
  obtain ⟨as, rfl, ha⟩ := Sem.eq_ok_of hr (a := Handler.found pc) (s' := s.setVm vm') (acts' := []) (by simp [hfind _ _ _ _])
  exact ⟨rfl, ha⟩
theorem ev_caught {tb : Tables} {e : Env} {s target : State} {g : JFrame} {c : Code} {below : List Frame} {a : Addr} (h : At s g.method c below) {pc : Nat} {vm' : Vm}
    (hfind : ev_Fi e ((s.setTop g).pushFrame (.throwing a)) g a (.found pc) vm') (hrest : Steps tb e below ((s.setVm vm').setTop { g with pc := pc, stack := [.ref a] }) target) :
    Steps tb e below ((s.setTop g).pushFrame (.throwing a)) target := by
  obtain ⟨hgo, hw⟩ := h.throwing a
  refine Steps.head hgo hw ?_
  rw [stepThread_throwing (frames_entered h.top _), (ev_step_catch (s := (s.setTop g).pushFrame (.throwing a)) hfind).1]
  obtain ⟨g₀, hg⟩ := Option.isSome_iff_exists.mp h.top
  obtain ⟨r, hr⟩ := State.topJava?_eq_some.mp hg
  have hr' : (s.setVm vm').frames = .java g₀ :: r := hr
  have hsv : ∀ (u : State) (F G : List Frame), ((u.setFrames F).setVm vm').setFrames G = (u.setVm vm').setFrames G := fun u F G => by
    have h1 : (u.setFrames F).setVm vm' = (u.setVm vm').setFrames F := rfl
    rw [h1, State.setFrames_setFrames]
  rw [State.setTop_of_frames _ hr'] at hrest
  rw [hr, List.tail_cons, State.pushFrame, hsv, State.setTop_of_frames _ hr, hsv]
  exact hrest
section EVK
variable {E : ev_E} {M : ev_M} {d pc : Nat} {ls : List (Option Value)} {h : ev_h} {sz k n : Nat} {Q : ev_Q}
/-- the first row takes it -/
theorem ev_catch1 {a ci s1 e1 hp ct N : Nat} {tl : List (Nat × Nat × Nat × Nat)} {X nm : String} {TX : u_T} {fs : List Value} (hx : M.2.2.2.2 = (s1, e1, hp, ct) :: tl) (hcov : (decide (s1 ≤ pc) && decide (pc < e1)) = true) (hct : ct ≠ 0) (hl : Cond.classLink M.1.cls ct nm ∈ lw_tbl) (hci : ev_cl[ci]? = some (X, TX, N)) (hcast : Cond.castable X nm ∈ lw_tbl) (he : h a = some (.inr (ci, fs)))
    (kk : Ev E M d hp ls [.ref a] h sz k n Q) : Et E M d pc ls a h sz k n Q := by
  intro p e R s m args below meth c T locs cells slots lsr st hC hR hL h1 h2 h3 h4 X0
  have hpl : e.platform.magicAccessors = ({} : Platform).magicAccessors := by rw [X0.admits.platform]
  have hxt := hC.xt
  rw [hx] at hxt
  obtain ⟨x, xs, ht, hx1, hx2⟩ := List.map_eq_cons_iff.mp hxt
  have y1 : x.startPc = s1 := congrArg (fun q => q.1) hx1
  have y2 : x.endPc = e1 := congrArg (fun q => q.2.1) hx1
  have y3 : x.handlerPc = hp := congrArg (fun q => q.2.2.1) hx1
  have y4 : x.catchType = ct := congrArg (fun q => q.2.2.2) hx1
  obtain ⟨cT, hcT, hcl⟩ := Cond.classLink_spec hC.ow (hC.w hl (ev_gdT rfl) args) e.platform hpl
  rw [← y4] at hcl
  obtain ⟨dk, _, _, kt, hdk, _, _, _, _, hkt, _, hopen⟩ := hcl.here
  have hW' : s.WarmedH (T.vm.noted m.cls x.catchType (.cls cT)) := X0.warmed.noted hdk hopen (State.rightAt_cls hcl)
  obtain ⟨cell, hcell, hobj, hcls⟩ := va_recv hC.K (ev_P1 (hR.1 a _ he)) hci (q0 := 0) rfl
  obtain ⟨c0, t0, f1, f2, f3⟩ := Cond.castable_spec (hC.w hcast ev_gdC args)
  cases hcls.symm.trans f1
  cases hcT.symm.trans f2
  have hal := X0.warmed.alike
  obtain ⟨kt', hkt', -⟩ := hal.2.2 _ _ hkt
  have hfit : T.vm.assignable cell.cls cT = true := by rw [hal.assignable]; exact f3
  have hfind : ev_Fi e ((T.setTop (F0 m pc lsr st)).pushFrame (.throwing a)) (F0 m pc lsr st) a (.found x.handlerPc) (T.vm.noted m.cls x.catchType (.cls cT)) := by
    intro Q1 E1 d1 acts
    refine (W.findHandler_eq (s := (T.setTop (F0 m pc lsr st)).pushFrame (.throwing a)) (f := F0 m pc lsr st) (meth := meth) (code := c) X0.method' X0.code).trans ?_
    rw [ht]
    refine (ev_go (s := (T.setTop (F0 m pc lsr st)).pushFrame (.throwing a)) (e := e) (f := F0 m pc lsr st) (a := a) (x := x) (t := xs) (c := cT) (cell := cell) (by show (decide (x.startPc ≤ pc) && decide (pc < x.endPc)) = true; rw [y1, y2]; exact hcov) (by rw [y4]; exact hct) (X0.warmed.classLinks hcl) hcell (VmData.ne_statics_of hobj) (Vm.classAt_of_assignable hfit ⟨kt', hkt'⟩) ⟨kt', hkt'⟩).trans ?_
    exact Iff.of_eq (if_pos hfit)
  obtain ⟨t, s1', z⟩ := kk p e R s m args below meth c (T.setVm (T.vm.noted m.cls x.catchType (.cls cT))).heap locs cells slots lsr hC hR hL h1 h2 h3 h4 _ rfl (X0.noted hW')
  refine ⟨t, ev_caught X0.here hfind ?_, z⟩
  rw [y3]
  exact s1'
/-- the first row passes it, the second takes it -/
theorem ev_catch2 {a ci s1 e1 hp1 ct1 s2 e2 hp ct N : Nat} {tl : List (Nat × Nat × Nat × Nat)} {X nm1 nm : String} {TX : u_T} {fs : List Value} (hx : M.2.2.2.2 = (s1, e1, hp1, ct1) :: (s2, e2, hp, ct) :: tl) (hcov1 : (decide (s1 ≤ pc) && decide (pc < e1)) = true) (hcov : (decide (s2 ≤ pc) && decide (pc < e2)) = true) (hct1 : ct1 ≠ 0) (hct : ct ≠ 0) (hl1 : Cond.classLink M.1.cls ct1 nm1 ∈ lw_tbl) (hl : Cond.classLink M.1.cls ct nm ∈ lw_tbl) (hci : ev_cl[ci]? = some (X, TX, N)) (hno : Cond.not (.castable X nm1) ∈ lw_tbl) (hcast : Cond.castable X nm ∈ lw_tbl) (he : h a = some (.inr (ci, fs)))
    (kk : Ev E M d hp ls [.ref a] h sz k n Q) : Et E M d pc ls a h sz k n Q := by
  intro p e R s m args below meth c T locs cells slots lsr st hC hR hL h1 h2 h3 h4 X0
  have hpl : e.platform.magicAccessors = ({} : Platform).magicAccessors := by rw [X0.admits.platform]
  have hxt := hC.xt
  rw [hx] at hxt
  obtain ⟨x1, xs1, ht1, hx11, hx12⟩ := List.map_eq_cons_iff.mp hxt
  obtain ⟨x, xs, ht, hx1, hx2⟩ := List.map_eq_cons_iff.mp hx12
  have w1 : x1.startPc = s1 := congrArg (fun q => q.1) hx11
  have w2 : x1.endPc = e1 := congrArg (fun q => q.2.1) hx11
  have w4 : x1.catchType = ct1 := congrArg (fun q => q.2.2.2) hx11
  have y1 : x.startPc = s2 := congrArg (fun q => q.1) hx1
  have y2 : x.endPc = e2 := congrArg (fun q => q.2.1) hx1
  have y3 : x.handlerPc = hp := congrArg (fun q => q.2.2.1) hx1
  have y4 : x.catchType = ct := congrArg (fun q => q.2.2.2) hx1
  obtain ⟨c1, hc1, hcl1⟩ := Cond.classLink_spec hC.ow (hC.w hl1 (ev_gdT rfl) args) e.platform hpl
  rw [← w4] at hcl1
  obtain ⟨cT, hcT, hcl⟩ := Cond.classLink_spec hC.ow (hC.w hl (ev_gdT rfl) args) e.platform hpl
  rw [← y4] at hcl
  obtain ⟨dk1, _, _, kt1, hdk1, _, _, _, _, hkt1, _, hopen1⟩ := hcl1.here
  obtain ⟨dk, _, _, kt, hdk, _, _, _, _, hkt, _, hopen⟩ := hcl.here
  have hW1 : s.WarmedH (T.vm.noted m.cls x1.catchType (.cls c1)) := X0.warmed.noted hdk1 hopen1 (State.rightAt_cls hcl1)
  have hW' : s.WarmedH ((T.vm.noted m.cls x1.catchType (.cls c1)).noted m.cls x.catchType (.cls cT)) := hW1.noted hdk hopen (State.rightAt_cls hcl)
  obtain ⟨cell, hcell, hobj, hcls⟩ := va_recv hC.K (ev_P1 (hR.1 a _ he)) hci (q0 := 0) rfl
  obtain ⟨c0, t0, f1, f2, f3⟩ := Cond.castable_spec (hC.w hcast ev_gdC args)
  cases hcls.symm.trans f1
  cases hcT.symm.trans f2
  obtain ⟨c0', t0', g1, g2, g3⟩ := hC.nc hno
  cases hcls.symm.trans g1
  cases hc1.symm.trans g2
  have hal := X0.warmed.alike
  obtain ⟨kt1', hkt1', -⟩ := hal.2.2 _ _ hkt1
  obtain ⟨kt', hkt', -⟩ := hal.2.2 _ _ hkt
  obtain ⟨kt2, hkt2, -⟩ := hW1.alike.2.2 _ _ hkt
  have hfitT : T.vm.assignable cell.cls cT = true := by rw [hal.assignable]; exact f3
  have hnofit : ¬ T.vm.assignable cell.cls c1 = true := by rw [hal.assignable, g3]; decide
  have hfit : (T.vm.noted m.cls x1.catchType (.cls c1)).assignable cell.cls cT = true := by rw [hW1.alike.assignable]; exact f3
  have hfind : ev_Fi e ((T.setTop (F0 m pc lsr st)).pushFrame (.throwing a)) (F0 m pc lsr st) a (.found x.handlerPc) ((T.vm.noted m.cls x1.catchType (.cls c1)).noted m.cls x.catchType (.cls cT)) := by
    intro Q1 E1 d1 acts
    refine (W.findHandler_eq (s := (T.setTop (F0 m pc lsr st)).pushFrame (.throwing a)) (f := F0 m pc lsr st) (meth := meth) (code := c) X0.method' X0.code).trans ?_
    rw [ht1, ht]
    refine (ev_go (s := (T.setTop (F0 m pc lsr st)).pushFrame (.throwing a)) (e := e) (f := F0 m pc lsr st) (a := a) (x := x1) (t := x :: xs) (c := c1) (cell := cell) (by show (decide (x1.startPc ≤ pc) && decide (pc < x1.endPc)) = true; rw [w1, w2]; exact hcov1) (by rw [w4]; exact hct1) (X0.warmed.classLinks hcl1) hcell (VmData.ne_statics_of hobj) (Vm.classAt_of_assignable hfitT ⟨kt', hkt'⟩) ⟨kt1', hkt1'⟩).trans ?_
    refine (Iff.of_eq (if_neg hnofit)).trans ?_
    refine (ev_go (s := ((T.setTop (F0 m pc lsr st)).pushFrame (.throwing a)).setVm (T.vm.noted m.cls x1.catchType (.cls c1))) (e := e) (f := F0 m pc lsr st) (a := a) (x := x) (t := xs) (c := cT) (cell := cell) (by show (decide (x.startPc ≤ pc) && decide (pc < x.endPc)) = true; rw [y1, y2]; exact hcov) (by rw [y4]; exact hct) (hW1.classLinks hcl) hcell (VmData.ne_statics_of hobj) (Vm.classAt_of_assignable hfit ⟨kt2, hkt2⟩) ⟨kt2, hkt2⟩).trans ?_
    exact Iff.of_eq (if_pos hfit)
  obtain ⟨t, s1', z⟩ := kk p e R s m args below meth c (T.setVm ((T.vm.noted m.cls x1.catchType (.cls c1)).noted m.cls x.catchType (.cls cT))).heap locs cells slots lsr hC hR hL h1 h2 h3 h4 _ rfl (X0.noted hW')
  refine ⟨t, ev_caught X0.here hfind ?_, z⟩
  rw [y3]
  exact s1'
end EVK
