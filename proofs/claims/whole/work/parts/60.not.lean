/-! What is not castable: givens of the statement, not words of the tables (written by gen_not.py). -/
def ev_np2 : List (String × String) := [("PreferTable$Graph", "PreferTable$Layers"), ("PreferTable$ValueOrder", "PreferTable$Layers"), ("PreferTable$Term", "PreferTable$Layers"), ("PreferTable$Layers", "PreferTable$Graph"), ("PreferTable$ValueOrder", "PreferTable$Graph"), ("PreferTable$Term", "PreferTable$Graph"), ("PreferTable$Layers", "PreferTable$Term"), ("PreferTable$Graph", "PreferTable$Term"), ("PreferTable$ValueOrder", "PreferTable$Term"), ("java/lang/IllegalStateException", "java/lang/IndexOutOfBoundsException"), ("java/lang/IllegalStateException", "java/lang/IllegalArgumentException"), ("java/lang/IndexOutOfBoundsException", "java/lang/IllegalStateException"), ("java/lang/IndexOutOfBoundsException", "java/lang/IllegalArgumentException"), ("java/lang/IllegalArgumentException", "java/lang/IllegalStateException"), ("java/lang/IllegalArgumentException", "java/lang/IndexOutOfBoundsException")]
def ev_nok (E : ev_E) : Prop := ∀ q ∈ ev_np2, (Cond.not (.castable q.1 q.2)).before E.2.2.2.2 E.2.2.2.1 = true
theorem ev_nc {E : ev_E} {M : ev_M} {p : Program} {s : State} {m : MethodId} {meth : Method} {c : Code} (hE : ev_nok E) (hC : ev_C E M p s m meth c) {a b : String} (hw : (a, b) ∈ ev_np2) : va_Nc a b s := va_Nc.moved hC.wm.alike (va_Nc.of (hE _ hw))
section EVN
variable {E : ev_E} {M : ev_M} {d pc pc' : Nat} {ls : List (Option Value)} {st : List Value} {h : ev_h} {sz k n : Nat} {Q : ev_Q}
theorem ev_isnt {index a ci N : Nat} {C nm : String} {T : u_T} {fs : List Value} (hd : ev_d M pc (.instanceof index) 3 pc') (hl : Cond.classLink M.1.cls index nm ∈ lw_tbl) (hc : ev_cl[ci]? = some (C, T, N)) (hE : ev_nok E) (hno : (C, nm) ∈ ev_np2) (he : h a = some (oB ci fs))
    (kk : Ev E M d pc' ls (.int 0 :: st) h sz k n Q) : Ev E M d pc ls (.ref a :: st) h sz k n Q := by
  obtain ⟨hd, rfl⟩ := hd
  intro p e R s m args below meth c H locs cells slots lsr hC hR hL h1 h2 h3 h4
  have kw := kk p e R s m args below meth c H locs cells slots lsr hC hR hL h1 h2 h3 h4
  exact va_instNo hC.ex hC.cd hC.ow (hC.w hl (ev_gdT rfl) args) (ev_nc hE hC hno) (va_recv hC.K (ev_P1 (hR.1 a _ he)) hc (q0 := 0) rfl) hd kw
theorem ev_catch2n {a ci s1 e1 hp1 ct1 s2 e2 hp ct N : Nat} {tl : List (Nat × Nat × Nat × Nat)} {X nm1 nm : String} {TX : u_T} {fs : List Value} (hx : M.2.2.2.2 = (s1, e1, hp1, ct1) :: (s2, e2, hp, ct) :: tl) (hcov1 : (decide (s1 ≤ pc) && decide (pc < e1)) = true) (hcov : (decide (s2 ≤ pc) && decide (pc < e2)) = true) (hct1 : ct1 ≠ 0) (hct : ct ≠ 0) (hl1 : Cond.classLink M.1.cls ct1 nm1 ∈ lw_tbl) (hl : Cond.classLink M.1.cls ct nm ∈ lw_tbl) (hci : ev_cl[ci]? = some (X, TX, N)) (hE : ev_nok E) (hno : (X, nm1) ∈ ev_np2) (hcast : Cond.castable X nm ∈ lw_tbl) (he : h a = some (.inr (ci, fs)))
    (kk : Ev E M d hp ls [.ref a] h sz k n Q) : Et E M d pc ls a h sz k n Q := by
  intro p e R s m args below meth c T locs cells slots lsr st hC hR hL h1 h2 h3 h4 X0
  have hpl : e.platform.magicAccessors = ({} : Platform).magicAccessors := by rw [X0.admits.platform]
  have hxt := hC.xt
  rw [hx] at hxt
  obtain ⟨x1, xs1, ht1, hx11, hx12⟩ := List.map_eq_cons_iff.mp hxt
  obtain ⟨x, xs, ht, hx1, hx2⟩ := List.map_eq_cons_iff.mp hx12
  have w1 : x1.startPc = s1 := congrArg (fun q => q.1) hx11
  have w2 : x1.endPc = e1 := congrArg (fun q => q.2.1) hx11
  have w4 : x1.catchType = ct1 := congrArg (fun q => q.2.2.2) hx11
  have y1 : x.startPc = s2 := congrArg (fun q => q.1) hx1
  have y2 : x.endPc = e2 := congrArg (fun q => q.2.1) hx1
  have y3 : x.handlerPc = hp := congrArg (fun q => q.2.2.1) hx1
  have y4 : x.catchType = ct := congrArg (fun q => q.2.2.2) hx1
  obtain ⟨c1, hc1, hcl1⟩ := Cond.classLink_spec hC.ow (hC.w hl1 (ev_gdT rfl) args) e.platform hpl
  rw [← w4] at hcl1
  obtain ⟨cT, hcT, hcl⟩ := Cond.classLink_spec hC.ow (hC.w hl (ev_gdT rfl) args) e.platform hpl
  rw [← y4] at hcl
  obtain ⟨dk1, _, _, kt1, hdk1, _, _, _, _, hkt1, _, hopen1⟩ := hcl1.here
  obtain ⟨dk, _, _, kt, hdk, _, _, _, _, hkt, _, hopen⟩ := hcl.here
  have hW1 : s.WarmedH (T.vm.noted m.cls x1.catchType (.cls c1)) := X0.warmed.noted hdk1 hopen1 (State.rightAt_cls hcl1)
  have hW' : s.WarmedH ((T.vm.noted m.cls x1.catchType (.cls c1)).noted m.cls x.catchType (.cls cT)) := hW1.noted hdk hopen (State.rightAt_cls hcl)
  obtain ⟨cell, hcell, hobj, hcls⟩ := va_recv hC.K (ev_P1 (hR.1 a _ he)) hci (q0 := 0) rfl
  obtain ⟨c0, t0, f1, f2, f3⟩ := Cond.castable_spec (hC.w hcast ev_gdC args)
  cases hcls.symm.trans f1
  cases hcT.symm.trans f2
  obtain ⟨c0', t0', g1, g2, g3⟩ := ev_nc hE hC hno
  cases hcls.symm.trans g1
  cases hc1.symm.trans g2
  have hal := X0.warmed.alike
  obtain ⟨kt1', hkt1', -⟩ := hal.2.2 _ _ hkt1
  obtain ⟨kt', hkt', -⟩ := hal.2.2 _ _ hkt
  obtain ⟨kt2, hkt2, -⟩ := hW1.alike.2.2 _ _ hkt
  have hfitT : T.vm.assignable cell.cls cT = true := by rw [hal.assignable]; exact f3
  have hnofit : ¬ T.vm.assignable cell.cls c1 = true := by rw [hal.assignable, g3]; decide
  have hfit : (T.vm.noted m.cls x1.catchType (.cls c1)).assignable cell.cls cT = true := by rw [hW1.alike.assignable]; exact f3
  have hfind : ev_Fi e ((T.setTop (F0 m pc lsr st)).pushFrame (.throwing a)) (F0 m pc lsr st) a (.found x.handlerPc) ((T.vm.noted m.cls x1.catchType (.cls c1)).noted m.cls x.catchType (.cls cT)) := by
    intro Q1 E1 d1 acts
    refine (W.findHandler_eq (s := (T.setTop (F0 m pc lsr st)).pushFrame (.throwing a)) (f := F0 m pc lsr st) (meth := meth) (code := c) X0.method' X0.code).trans ?_
    rw [ht1, ht]
    refine (ev_go (s := (T.setTop (F0 m pc lsr st)).pushFrame (.throwing a)) (e := e) (f := F0 m pc lsr st) (a := a) (x := x1) (t := x :: xs) (c := c1) (cell := cell) (by show (decide (x1.startPc ≤ pc) && decide (pc < x1.endPc)) = true; rw [w1, w2]; exact hcov1) (by rw [w4]; exact hct1) (X0.warmed.classLinks hcl1) hcell (VmData.ne_statics_of hobj) (Vm.classAt_of_assignable hfitT ⟨kt', hkt'⟩) ⟨kt1', hkt1'⟩).trans ?_
    refine (Iff.of_eq (if_neg hnofit)).trans ?_
    refine (ev_go (s := ((T.setTop (F0 m pc lsr st)).pushFrame (.throwing a)).setVm (T.vm.noted m.cls x1.catchType (.cls c1))) (e := e) (f := F0 m pc lsr st) (a := a) (x := x) (t := xs) (c := cT) (cell := cell) (by show (decide (x.startPc ≤ pc) && decide (pc < x.endPc)) = true; rw [y1, y2]; exact hcov) (by rw [y4]; exact hct) (hW1.classLinks hcl) hcell (VmData.ne_statics_of hobj) (Vm.classAt_of_assignable hfit ⟨kt2, hkt2⟩) ⟨kt2, hkt2⟩).trans ?_
    exact Iff.of_eq (if_pos hfit)
  obtain ⟨t, s1', z⟩ := kk p e R s m args below meth c (T.setVm ((T.vm.noted m.cls x1.catchType (.cls c1)).noted m.cls x.catchType (.cls cT))).heap locs cells slots lsr hC hR hL h1 h2 h3 h4 _ rfl (X0.noted hW')
  refine ⟨t, ev_caught X0.here hfind ?_, z⟩
  rw [y3]
  exact s1'
end EVN
