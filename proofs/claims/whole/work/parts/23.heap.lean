/-! Ev: fields, arrays, new. -/
theorem ev_gdO {C : String} : ev_gd (.arrayOver (.object C)) := fun _ _ _ _ hW h1 => va_AO.use (va_AO.moved hW.alike (va_AO.of h1))
theorem ev_R_up {E : ev_E} {h : ev_h} {sz : Nat} {H H' : Heap} {locs : List Loc} {a i : Nat} {x x' : va_E} (hR : ev_R E h sz H locs) (ha : h a = some x) (hx : va_at E.2.1 ev_cl (a, x') H') (hz : H'.size = H.size) (ho : ∀ q, q ≠ a → H'[q]? = H[q]?) : ev_R E (ev_up h a x') sz H' (locs ++ [⟨a, i⟩]) := by
  obtain ⟨r1, r2, r3, r4, r5, r6⟩ := hR
  have hb := r4 a x ha
  refine ⟨fun q y hq => ?_, hz.trans r2, r3, fun q y hq => ?_, fun q hq => ?_, fun y hy => ?_⟩
  · by_cases hqa : q = a
    · subst hqa
      rw [ev_up_s] at hq
      cases hq
      exact hx
    · rw [ev_up_n hqa] at hq
      exact (r1 q y hq).kept (ho q hqa)
  · by_cases hqa : q = a
    · subst hqa; exact hb
    · rw [ev_up_n hqa] at hq
      exact r4 q y hq
  · rw [ho q (by omega)]
    exact r5 q hq
  · rcases List.mem_append.mp hy with h1 | h1
    · exact r6 y h1
    · rw [List.mem_singleton] at h1
      subst h1
      exact hb
theorem ev_R_new {E : ev_E} {h : ev_h} {sz : Nat} {H H' : Heap} {locs : List Loc} {x' : va_E} (hR : ev_R E h sz H locs) (hx : va_at E.2.1 ev_cl (sz, x') H') (hz : H'.size = sz + 1) (ho : ∀ q, q < sz → H'[q]? = H[q]?) : ev_R E (ev_up h sz x') (sz + 1) H' locs := by
  obtain ⟨r1, r2, r3, r4, r5, r6⟩ := hR
  refine ⟨fun q y hq => ?_, hz, by omega, fun q y hq => ?_, fun q hq => ?_, r6⟩
  · by_cases hqa : q = sz
    · subst hqa
      rw [ev_up_s] at hq
      cases hq
      exact hx
    · rw [ev_up_n hqa] at hq
      have hl : q < H.size := (r1 q y hq).lt
      exact (r1 q y hq).kept (ho q (by rw [← r2]; exact hl))
  · by_cases hqa : q = sz
    · omega
    · rw [ev_up_n hqa] at hq
      exact r4 q y hq
  · rw [ho q (by omega)]
    exact r5 q hq
/-- a cell of the heap, as a world of one cell -/
theorem ev_P1 {D : va_G} {a : Nat} {x : va_E} {H : Heap} (hx : va_at D ev_cl (a, x) H) : va_P D ev_cl [(a, x)] H := fun j q hj => by
  cases j with
  | zero => cases hj; exact hx
  | succ j => simp at hj
/-- what the tables say of a class of the list -/
def ev_good (C : String) (T : u_T) (N : Nat) : Prop := (∀ w ∈ u_ws C T N, w ∈ lw_tbl) ∧ (∃ ty : Nat → FieldType, ∀ k, k < N → parseFieldDescriptor (T k).2.2.1 = some (ty k)) ∧ ∀ a, a < N → ∀ b, b < N → a ≠ b → (T a).2.1 ≠ (T b).2.1
theorem ev_lays {E : ev_E} {M : ev_M} {p : Program} {s : State} {m : MethodId} {meth : Method} {c : Code} (hC : ev_C E M p s m meth c) {C : String} {T : u_T} {N : Nat} (hin : ∀ w ∈ u_ws C T N, w ∈ lw_tbl) (w : Cond) (hw : w ∈ u_ws C T N) (args : Array Value) : w.before args s = true := by
  refine hC.w (hin w hw) ?_ args
  obtain ⟨k, -, rfl⟩ := List.mem_map.mp hw
  exact ev_gdL
/-- a field's site in class own: the field is number k0 of the class number ci -/
def ev_gs (own : String) (index ci k0 : Nat) : Prop := ∃ (ref C : String) (T : u_T) (N : Nat), ev_good C T N ∧ Cond.fieldLink own index ref (T k0).2.1 (T k0).2.2.1 ∈ lw_tbl ∧ (ref = (T k0).1 ∨ Cond.sameField ref (T k0).1 (T k0).2.1 (T k0).2.2.1 ∈ lw_tbl) ∧ ev_cl[ci]? = some (C, T, N) ∧ k0 < N
/-- the same, with the field's type; whether it is final (then: own, and only in a constructor) -/
def ev_ps (own mname : String) (index ci k0 : Nat) (ty : FieldType) : Prop := ∃ (ref C : String) (T : u_T) (N : Nat), ev_good C T N ∧ Cond.fieldLink own index ref (T k0).2.1 (T k0).2.2.1 ∈ lw_tbl ∧ (ref = (T k0).1 ∨ Cond.sameField ref (T k0).1 (T k0).2.1 (T k0).2.2.1 ∈ lw_tbl) ∧ ev_cl[ci]? = some (C, T, N) ∧ k0 < N ∧
  parseFieldDescriptor (T k0).2.2.1 = some ty ∧ ((T k0).2.2.2 = false ∨ ((T k0).2.2.2 = true ∧ mname = "<init>" ∧ (T k0).1 = own))
theorem ev_same {s : State} {args : Array Value} {ref : String} {t : String × String × String × Bool} (h : ref = t.1 ∨ (Cond.sameField ref t.1 t.2.1 t.2.2.1).before args s = true) : ∀ x, s.fieldFound? t.1 t.2.1 t.2.2.1 = some x → s.fieldFound? ref t.2.1 t.2.2.1 = some x := by
  rcases h with rfl | h
  · exact fun x hx => hx
  · exact u_same h
section EVH
variable {E : ev_E} {M : ev_M} {d pc pc' : Nat} {ls : List (Option Value)} {st : List Value} {h : ev_h} {sz k n : Nat} {Q : ev_Q}
theorem ev_get {index a ci k0 : Nat} {fs : List Value} {v : Value} (hd : ev_d M pc (.getfield index) 3 pc') (hs : ev_gs M.1.cls index ci k0) (he : h a = some (oB ci fs)) (hv : fs[k0]? = some v)
    (kk : Ev E M d pc' ls (v :: st) h sz k n Q) : Ev E M d pc ls (.ref a :: st) h sz k n Q := by
  obtain ⟨hd, rfl⟩ := hd
  obtain ⟨ref, C, T, N, hgood, hlk, hsm, hc, hk⟩ := hs
  intro p e R s m args below meth c H locs cells slots lsr hC hR hL h1 h2 h3 h4
  have kw := kk p e R s m args below meth c H locs cells slots lsr hC hR hL h1 h2 h3 h4
  exact va_get (ws := [(a, .inr (ci, fs))]) (Ts := u_ws C T N) hC.ex hC.cd (fun w hw => ev_lays hC hgood.1 w hw args) (fun w hw => hw) hC.ow hC.K (ev_P1 (hR.1 a _ he)) 0 rfl hc k0 hk (hC.w hlk (ev_gdT rfl) args)
    (ev_same (args := args) (hsm.imp id fun q => hC.w q (ev_gdT rfl) args)) hv hd kw
theorem ev_put {index a ci k0 : Nat} {fs : List Value} {v : Value} {ty : FieldType} (fs' : List Value) (hd : ev_d M pc (.putfield index) 3 pc') (hs : ev_ps M.1.cls M.1.name index ci k0 ty) (he : h a = some (oB ci fs)) (hn : narrow ty v = v) (hfit : fits ty v = true) (hl : Nat.ble (k0 + 1) fs.length = true) (hset : fs.set k0 v = fs')
    (kk : Ev E M d pc' ls st (ev_up h a (oB ci fs')) sz k n Q) : Ev E M d pc ls (v :: .ref a :: st) h sz k n Q := by
  obtain ⟨hd, rfl⟩ := hd
  replace hl : k0 < fs.length := Nat.le_of_ble_eq_true hl
  subst hset
  obtain ⟨ref, C, T, N, hgood, hlk, hsm, hc, hk, hty, hfin⟩ := hs
  obtain ⟨hin, ⟨ty0, hty0⟩, hnm⟩ := hgood
  intro p e R s m args below meth c H locs cells slots lsr hC hR hL h1 h2 h3 h4
  have hts : ∀ w ∈ u_ws C T N, w.before args s = true := fun w hw => ev_lays hC hin w hw args
  have hap := va_apart (own := M.1.cls) (D := E.2.1) hts (fun w hw => hw) ty0 hty0 hnm hC.K hc
  obtain ⟨r, g1, cell, q1, q2, q3, q4⟩ := hR.1 a _ he
  have hr : r = (C, T, N) := Option.some.inj (g1.symm.trans hc)
  subst hr
  obtain ⟨hS, hfc, kC, hkC, hkind⟩ := hC.K.1 ci _ hc
  obtain ⟨cf, kf, fi, f, hi, hsl⟩ := hS k0 hk
  have hlay := hts _ (u_in_lay hk)
  have hst := (u_facts hfc hkC (u_lays hts (fun w hw => hw) hk) hi).1
  have hlink := hC.w hlk (ev_gdT rfl) args
  have hsame := ev_same (args := args) (hsm.imp id fun q => hC.w q (ev_gdT rfl) args) _ hi
  unfold u_lay at hlay
  rcases hfin with hfin | ⟨hfin, hini, hdecl⟩
  · rw [if_neg (by rw [hfin]; decide)] at hlay
    have h6 := u_store hfc hkC hkind hlay hi hty hn hfit
    refine W.putK hC.ex hC.cd (f := f) ⟨hC.ow, hlink, ⟨_, _, _, hsame⟩, hst⟩ (by rw [q2]; exact h6) q1 q3 (by rw [hsl]; exact k2_hasslot (q4 k0 hk)) rfl rfl hd fun H' e1 e2 e3 => ?_
    rw [hsl] at e1 ⊢
    exact kk p e R s m args below meth c H' _ cells slots lsr hC (ev_R_up hR he ⟨_, hc, t_OB.to (V := updV (vp_V fs) k0 v) ⟨_, e1, q2, q3, t_set q4 hap hk v⟩ (fun j _ => vp_updV_set hl v j)⟩ e2 e3) hL h1 h2 h3 h4
  · rw [if_pos hfin] at hlay
    have hcf : m.cls = cf := by
      obtain ⟨_, _, c', _, _, _, -, -, hf', -, -, -, hown2, -⟩ := Cond.laysFinal_spec hlay
      have e1 : c' = cf := by have := hi.symm.trans hf'; simp at this; exact this.1.symm
      rw [hdecl] at hown2
      rw [← e1]; exact Option.some.inj (hC.ow.symm.trans hown2)
    have h6 := u_fits hfc hkC hkind (Or.inr hlay) hi hty hn hfit
    refine W.putFinK hC.ex hC.cd hC.ow hlink hsame hst hcf (hC.nm.trans hini) (by rw [q2]; exact h6) q1 q3 (by rw [hsl]; exact k2_hasslot (q4 k0 hk)) rfl rfl hd fun H' e1 e2 e3 => ?_
    rw [hsl] at e1 ⊢
    exact kk p e R s m args below meth c H' _ cells slots lsr hC (ev_R_up hR he ⟨_, hc, t_OB.to (V := updV (vp_V fs) k0 v) ⟨_, e1, q2, q3, t_set q4 hap hk v⟩ (fun j _ => vp_updV_set hl v j)⟩ e2 e3) hL h1 h2 h3 h4
theorem ev_in {j N : Nat} (hj : j < N) (hN : N ≤ 65536) : vp_in (nI j) N := by
  rintro (h | h)
  · exact nI_pos (by omega) h
  · rw [nI_clamp (by omega)] at h
    omega
theorem ev_iald {a N j : Nat} {f : Nat → Int32} {x : Int32} (hd : ev_d M pc .iaload 1 pc') (he : h a = some (iA E N f)) (hj : j < N) (hN : N ≤ 65536) (hv : f j = x)
    (kk : Ev E M d pc' ls (.int x :: st) h sz k n Q) : Ev E M d pc ls (.int (nI j) :: .ref a :: st) h sz k n Q := by
  obtain ⟨hd, rfl⟩ := hd
  subst hv
  intro p e R s m args below meth c H locs cells slots lsr hC hR hL h1 h2 h3 h4
  have kw := kk p e R s m args below meth c H locs cells slots lsr hC hR hL h1 h2 h3 h4
  have hcl : (nI j).toNatClampNeg = j := nI_clamp (by omega)
  exact va_iald (ws := [(a, .inl (E.2.2.1 0, N, .inl f))]) hC.ex hC.cd hC.K (ev_P1 (hR.1 a _ he)) 0 0 rfl rfl (ev_in hj hN) hd (by rw [hcl]; exact kw)
theorem ev_zald {a N j : Nat} {f : Nat → Int32} {x : Int32} (hd : ev_d M pc .baload 1 pc') (he : h a = some (zA E N f)) (hj : j < N) (hN : N ≤ 65536) (hv : f j = x)
    (kk : Ev E M d pc' ls (.int x :: st) h sz k n Q) : Ev E M d pc ls (.int (nI j) :: .ref a :: st) h sz k n Q := by
  obtain ⟨hd, rfl⟩ := hd
  subst hv
  intro p e R s m args below meth c H locs cells slots lsr hC hR hL h1 h2 h3 h4
  have kw := kk p e R s m args below meth c H locs cells slots lsr hC hR hL h1 h2 h3 h4
  have hcl : (nI j).toNatClampNeg = j := nI_clamp (by omega)
  exact va_zald (ws := [(a, .inl (E.2.2.1 1, N, .inl f))]) hC.ex hC.cd hC.K (ev_P1 (hR.1 a _ he)) 0 1 rfl rfl (ev_in hj hN) hd (by rw [hcl]; exact kw)
theorem ev_lald {a N j : Nat} {f : Nat → Int64} {x : Int64} (hd : ev_d M pc .laload 1 pc') (he : h a = some (lA E N f)) (hj : j < N) (hN : N ≤ 65536) (hv : f j = x)
    (kk : Ev E M d pc' ls (.long x :: st) h sz k n Q) : Ev E M d pc ls (.int (nI j) :: .ref a :: st) h sz k n Q := by
  obtain ⟨hd, rfl⟩ := hd
  subst hv
  intro p e R s m args below meth c H locs cells slots lsr hC hR hL h1 h2 h3 h4
  have kw := kk p e R s m args below meth c H locs cells slots lsr hC hR hL h1 h2 h3 h4
  have hcl : (nI j).toNatClampNeg = j := nI_clamp (by omega)
  exact va_lald (ws := [(a, .inl (E.2.2.1 2, N, .inr (.inl f)))]) hC.ex hC.cd hC.K (ev_P1 (hR.1 a _ he)) 0 2 rfl rfl (ev_in hj hN) hd (by rw [hcl]; exact kw)
/-- of an array of references (t: its number among the array types) -/
theorem ev_aald {a N j t : Nat} {ty : FieldType} {f : Nat → Option Nat} {v : Value} (hd : ev_d M pc .aaload 1 pc') (ht : (ev_tys E.2.2.1)[t]? = some (E.2.2.1 t, ty)) (hty : ty.isReference = true) (he : h a = some (rA E t N f)) (hj : j < N) (hN : N ≤ 65536) (hv : va_rf (f j) = v)
    (kk : Ev E M d pc' ls (v :: st) h sz k n Q) : Ev E M d pc ls (.int (nI j) :: .ref a :: st) h sz k n Q := by
  obtain ⟨hd, rfl⟩ := hd
  subst hv
  intro p e R s m args below meth c H locs cells slots lsr hC hR hL h1 h2 h3 h4
  have kw := kk p e R s m args below meth c H locs cells slots lsr hC hR hL h1 h2 h3 h4
  have hcl : (nI j).toNatClampNeg = j := nI_clamp (by omega)
  exact W.aald (v := va_rf (f j)) (ty := ty) hC.ex hC.cd (hR.1 a _ he) ((hC.K.2 t _ ht).1 N (fun j => va_rf (f j))) hty (fun q => by cases q) (by show ¬ (nI j < 0 ∨ (arrV _ _ _).slots.size ≤ _); rw [arrV_size]; exact ev_in hj hN) (by show (arrV _ _ _).slots[_]? = _; rw [hcl, arrV_read _ _ hj]) rfl rfl hd kw
theorem ev_alen {a t : Nat} {x : vp_A} {ty : FieldType} {v : Int32} (hd : ev_d M pc .arraylength 1 pc') (ht : (ev_tys E.2.2.1)[t]? = some (E.2.2.1 t, ty)) (he : h a = some (.inl (E.2.2.1 t, x))) (hv : nI x.1 = v)
    (kk : Ev E M d pc' ls (.int v :: st) h sz k n Q) : Ev E M d pc ls (.ref a :: st) h sz k n Q := by
  obtain ⟨hd, rfl⟩ := hd
  intro p e R s m args below meth c H locs cells slots lsr hC hR hL h1 h2 h3 h4
  have kw := kk p e R s m args below meth c H locs cells slots lsr hC hR hL h1 h2 h3 h4
  exact va_alen (ws := [(a, .inl (E.2.2.1 t, x))]) hC.ex hC.cd hC.K (ev_P1 (hR.1 a _ he)) 0 t rfl ht hv hd kw
theorem ev_iast {a N j : Nat} {f : Nat → Int32} {x : Int32} (hd : ev_d M pc .iastore 1 pc') (he : h a = some (iA E N f)) (hj : j < N) (hN : N ≤ 65536)
    (kk : Ev E M d pc' ls st (ev_up h a (iA E N (upd f j x))) sz k n Q) : Ev E M d pc ls (.int x :: .int (nI j) :: .ref a :: st) h sz k n Q := by
  obtain ⟨hd, rfl⟩ := hd
  intro p e R s m args below meth c H locs cells slots lsr hC hR hL h1 h2 h3 h4
  have hcl : (nI j).toNatClampNeg = j := nI_clamp (by omega)
  refine W.iast hC.ex hC.cd (hR.1 a _ he) ((hC.K.2 0 _ rfl).1 N (fun j => .int (f j))) (fun q => by cases q) (by show ¬ (nI j < 0 ∨ (arrV _ _ _).slots.size ≤ _); rw [arrV_size]; exact ev_in hj hN) rfl rfl hd fun H1 e1 z oq => ?_
  refine kk p e R s m args below meth c H1 _ cells slots lsr hC (ev_R_up hR he ?_ z oq) hL h1 h2 h3 h4
  show H1[a]? = some (vp_cell _ _)
  rw [e1, hcl, vp_cell_i, vp_cell_i, arrV_store]
  congr 2
  funext q
  by_cases hq : q = j
  · subst hq; simp [updV, upd]
  · simp [updV, upd, hq]
theorem ev_zast {a N j : Nat} {f : Nat → Int32} {x : Int32} (hd : ev_d M pc .bastore 1 pc') (he : h a = some (zA E N f)) (hj : j < N) (hN : N ≤ 65536) (hx : narrow .boolean (.int x) = .int x)
    (kk : Ev E M d pc' ls st (ev_up h a (zA E N (upd f j x))) sz k n Q) : Ev E M d pc ls (.int x :: .int (nI j) :: .ref a :: st) h sz k n Q := by
  obtain ⟨hd, rfl⟩ := hd
  intro p e R s m args below meth c H locs cells slots lsr hC hR hL h1 h2 h3 h4
  have hcl : (nI j).toNatClampNeg = j := nI_clamp (by omega)
  refine W.zast hC.ex hC.cd (hR.1 a _ he) ((hC.K.2 1 _ rfl).1 N (fun j => .int (f j))) (fun q => by cases q) (by show ¬ (nI j < 0 ∨ (arrV _ _ _).slots.size ≤ _); rw [arrV_size]; exact ev_in hj hN) rfl rfl hd fun H1 e1 z oq => ?_
  refine kk p e R s m args below meth c H1 _ cells slots lsr hC (ev_R_up hR he ?_ z oq) hL h1 h2 h3 h4
  show H1[a]? = some (vp_cell _ _)
  rw [e1, hcl, hx, vp_cell_i, vp_cell_i, arrV_store]
  congr 2
  funext q
  by_cases hq : q = j
  · subst hq; simp [updV, upd]
  · simp [updV, upd, hq]
theorem ev_last {a N j : Nat} {f : Nat → Int64} {x : Int64} (hd : ev_d M pc .lastore 1 pc') (he : h a = some (lA E N f)) (hj : j < N) (hN : N ≤ 65536)
    (kk : Ev E M d pc' ls st (ev_up h a (lA E N (vp_updL f j x))) sz k n Q) : Ev E M d pc ls (.long x :: .int (nI j) :: .ref a :: st) h sz k n Q := by
  obtain ⟨hd, rfl⟩ := hd
  intro p e R s m args below meth c H locs cells slots lsr hC hR hL h1 h2 h3 h4
  have hcl : (nI j).toNatClampNeg = j := nI_clamp (by omega)
  refine W.last hC.ex hC.cd (hR.1 a _ he) ((hC.K.2 2 _ rfl).1 N (fun j => .long (f j))) (fun q => by cases q) (by show ¬ (nI j < 0 ∨ (arrV _ _ _).slots.size ≤ _); rw [arrV_size]; exact ev_in hj hN) rfl rfl hd fun H1 e1 z oq => ?_
  refine kk p e R s m args below meth c H1 _ cells slots lsr hC (ev_R_up hR he ?_ z oq) hL h1 h2 h3 h4
  show H1[a]? = some (vp_cell _ _)
  rw [e1, hcl, vp_cell_l, vp_cell_l, arrV_store]
  congr 2
  funext q
  by_cases hq : q = j
  · subst hq; simp [updV, vp_updL]
  · simp [updV, vp_updL, hq]
/-- a reference into an array: cb is the class of the array's elements, castable from the object's -/
theorem ev_aast {a N j t v ci : Nat} {C Cv : String} {Tv : u_T} {Nv : Nat} {fs : List Value} {f : Nat → Option Nat} (hd : ev_d M pc .aastore 1 pc') (ht : (ev_tys E.2.2.1)[t]? = some (E.2.2.1 t, .object C)) (hc : ev_cl[ci]? = some (Cv, Tv, Nv)) (hcast : Cv = C ∨ Cond.castable Cv C ∈ lw_tbl) (he : h a = some (rA E t N f)) (hv : h v = some (oB ci fs)) (hj : j < N) (hN : N ≤ 65536)
    (kk : Ev E M d pc' ls st (ev_up h a (rA E t N (va_up f j (some v)))) sz k n Q) : Ev E M d pc ls (.ref v :: .int (nI j) :: .ref a :: st) h sz k n Q := by
  obtain ⟨hd, rfl⟩ := hd
  intro p e R s m args below meth c H locs cells slots lsr hC hR hL h1 h2 h3 h4
  have hcl : (nI j).toNatClampNeg = j := nI_clamp (by omega)
  obtain ⟨r', hr', cellV, g1, g2, g3, -⟩ := hR.1 v _ hv
  have hcls := (hC.K.1 ci _ hc).2
  obtain ⟨kA, comp, k1, k2, k3, -⟩ := (hC.K.2 t _ ht).2
  obtain ⟨kC, hkC, -⟩ := hcls.2
  have hasg : s.vm.assignable (E.2.1.1 ci) comp = true := by
    rcases hcast with rfl | hcast
    · have hcomp : comp = E.2.1.1 ci := Option.some.inj (k3.symm.trans hcls.1)
      rw [hcomp]
      exact va_assign hcls
    · obtain ⟨c0, t0, f1, f2, f3⟩ := Cond.castable_spec (hC.w hcast ev_gdC args)
      cases hcls.1.symm.trans f1
      cases k3.symm.trans f2
      exact f3
  obtain ⟨kcomp, hkcomp, -⟩ := Vm.findClass_spec k3
  refine W.aast hC.ex hC.cd (hR.1 a _ he) (fun q h => by cases h) (fun h => by cases h) k1 k2 rfl hkcomp ⟨fun q => ev_in hj hN (Or.inl q), by show _ < (arrV _ _ _).slots.size; rw [arrV_size, hcl]; exact hj⟩ g1 (fun q h => by rw [g3] at h; cases h) (by rw [g2]; exact hkC) (by rw [g2]; exact hasg) rfl rfl hd fun H1 e1 z oq => ?_
  refine kk p e R s m args below meth c H1 _ cells slots lsr hC (ev_R_up hR he ?_ z oq) hL h1 h2 h3 h4
  show H1[a]? = some (vp_cell _ _)
  rw [e1, hcl, vp_cell_q, vp_cell_q, arrV_store]
  congr 2
  funext q
  by_cases hq : q = j
  · subst hq; simp [updV, va_up, va_rf]
  · simp [updV, va_up, hq]
/-- a class's site for new -/
def ev_ns (own : String) (index ci N : Nat) (fs : List Value) : Prop := ∃ (C : String) (T : u_T) (ty : Nat → FieldType), ev_good C T N ∧ Cond.classLink own index C ∈ lw_tbl ∧ Cond.instantiable C N ∈ lw_tbl ∧ Cond.initialized C ∈ lw_tbl ∧ ev_cl[ci]? = some (C, T, N) ∧ (∀ k, k < N → parseFieldDescriptor (T k).2.2.1 = some (ty k)) ∧ ∀ j, j < N → defaultValue (ty j) = vp_V fs j
theorem ev_new {index ci N : Nat} {fs : List Value} (hd : ev_d M pc (.new index) 3 pc') (hs : ev_ns M.1.cls index ci N fs)
    (kk : Ev E M d pc' ls (.ref sz :: st) (ev_up h sz (oB ci fs)) (sz + 1) k n Q) : Ev E M d pc ls st h sz (k + 1) (n + N) Q := by
  obtain ⟨hd, rfl⟩ := hd
  obtain ⟨C, T, ty, hgood, hcl, hinst, hini, hc, hty, hfs⟩ := hs
  intro p e R s m args below meth c H locs cells slots lsr hC hR hL h1 h2 h3 h4
  have hts : ∀ w ∈ u_ws C T N, w.before args s = true := fun w hw => ev_lays hC hgood.1 w hw args
  have hKn := hC.K.1 ci _ hc
  have hz : H.size = sz := hR.2.1
  refine W.newcK hC.ex hC.cd hC.ow (hC.w hcl (ev_gdT rfl) args) (hC.w hinst (ev_gdT rfl) args) (hC.w hini (ev_gdT rfl) args) rfl hd (by omega) (by omega) hKn.2.1 hz fun H1 kC hkC e1 z1 o1 => ?_
  exact kk p e R s m args below meth c H1 locs (cells + 1) (slots + N) lsr hC (ev_R_new hR ⟨_, hc, (u_born ty hts (fun w hw => hw) hKn hkC e1 hty).to hfs⟩ z1 o1) hL h1 h2 (by omega) (by omega)
theorem ev_newi {N : Nat} (hd : ev_d M pc (.newarray .int) 2 pc') (hN : N ≤ 65536) (harr : Cond.arrayClass .int ∈ lw_tbl)
    (kk : Ev E M d pc' ls (.ref sz :: st) (ev_up h sz (iA E N (fun _ => nI 0))) (sz + 1) k n Q) : Ev E M d pc ls (.int (nI N) :: st) h sz (k + 1) (n + N) Q := by
  obtain ⟨hd, rfl⟩ := hd
  intro p e R s m args below meth c H locs cells slots lsr hC hR hL h1 h2 h3 h4
  have hz : H.size = sz := hR.2.1
  refine va_newaK hC.ex hC.cd (atype := .int) (hC.w harr ev_gdA args) (g := F0 m pc lsr (.int (nI N) :: st)) rfl hd (n := nI N) (N := N) (rest := st) rfl (nI_pos (by omega)) (nI_clamp (by omega)) (by show N * 4 ≤ _; omega) (by omega) (by omega) hz fun H1 cA e1 z1 o1 hA hfc => ?_
  have hcA : E.2.2.1 0 = cA := Option.some.inj ((show s.vm.findClass "[I" = some (E.2.2.1 0) from (hC.K.2 0 _ rfl).2).symm.trans hfc)
  exact kk p e R s m args below meth c H1 locs (cells + 1) (slots + N) lsr hC (ev_R_new hR (by show H1[sz]? = some (vp_cell _ _); rw [hcA]; exact e1) z1 o1) hL h1 h2 (by omega) (by omega)
theorem ev_newz {N : Nat} (hd : ev_d M pc (.newarray .boolean) 2 pc') (hN : N ≤ 65536) (harr : Cond.arrayClass .boolean ∈ lw_tbl)
    (kk : Ev E M d pc' ls (.ref sz :: st) (ev_up h sz (zA E N (fun _ => nI 0))) (sz + 1) k n Q) : Ev E M d pc ls (.int (nI N) :: st) h sz (k + 1) (n + N) Q := by
  obtain ⟨hd, rfl⟩ := hd
  intro p e R s m args below meth c H locs cells slots lsr hC hR hL h1 h2 h3 h4
  have hz : H.size = sz := hR.2.1
  refine va_newaK hC.ex hC.cd (atype := .boolean) (hC.w harr ev_gdA args) (g := F0 m pc lsr (.int (nI N) :: st)) rfl hd (n := nI N) (N := N) (rest := st) rfl (nI_pos (by omega)) (nI_clamp (by omega)) (by show N * 1 ≤ _; omega) (by omega) (by omega) hz fun H1 cA e1 z1 o1 hA hfc => ?_
  have hcA : E.2.2.1 1 = cA := Option.some.inj ((show s.vm.findClass "[Z" = some (E.2.2.1 1) from (hC.K.2 1 _ rfl).2).symm.trans hfc)
  exact kk p e R s m args below meth c H1 locs (cells + 1) (slots + N) lsr hC (ev_R_new hR (by show H1[sz]? = some (vp_cell _ _); rw [hcA]; exact e1) z1 o1) hL h1 h2 (by omega) (by omega)
theorem ev_newl {N : Nat} (hd : ev_d M pc (.newarray .long) 2 pc') (hN : N ≤ 65536) (harr : Cond.arrayClass .long ∈ lw_tbl)
    (kk : Ev E M d pc' ls (.ref sz :: st) (ev_up h sz (lA E N (fun _ => 0))) (sz + 1) k n Q) : Ev E M d pc ls (.int (nI N) :: st) h sz (k + 1) (n + N) Q := by
  obtain ⟨hd, rfl⟩ := hd
  intro p e R s m args below meth c H locs cells slots lsr hC hR hL h1 h2 h3 h4
  have hz : H.size = sz := hR.2.1
  refine va_newaK hC.ex hC.cd (atype := .long) (hC.w harr ev_gdA args) (g := F0 m pc lsr (.int (nI N) :: st)) rfl hd (n := nI N) (N := N) (rest := st) rfl (nI_pos (by omega)) (nI_clamp (by omega)) (by show N * 8 ≤ _; omega) (by omega) (by omega) hz fun H1 cA e1 z1 o1 hA hfc => ?_
  have hcA : E.2.2.1 2 = cA := Option.some.inj ((show s.vm.findClass "[J" = some (E.2.2.1 2) from (hC.K.2 2 _ rfl).2).symm.trans hfc)
  exact kk p e R s m args below meth c H1 locs (cells + 1) (slots + N) lsr hC (ev_R_new hR (by show H1[sz]? = some (vp_cell _ _); rw [hcA]; exact e1) z1 o1) hL h1 h2 (by omega) (by omega)
theorem ev_anew {N index t : Nat} {C : String} (hd : ev_d M pc (.anewarray index) 3 pc') (ht : (ev_tys E.2.2.1)[t]? = some (E.2.2.1 t, .object C)) (hlk : Cond.classLink M.1.cls index C ∈ lw_tbl) (hov : Cond.arrayOver (.object C) ∈ lw_tbl) (hN : N ≤ 65536)
    (kk : Ev E M d pc' ls (.ref sz :: st) (ev_up h sz (rA E t N (fun _ => none))) (sz + 1) k n Q) : Ev E M d pc ls (.int (nI N) :: st) h sz (k + 1) (n + N) Q := by
  obtain ⟨hd, rfl⟩ := hd
  intro p e R s m args below meth c H locs cells slots lsr hC hR hL h1 h2 h3 h4
  have hcl : (nI N).toNatClampNeg = N := nI_clamp (by omega)
  have hz : H.size = sz := hR.2.1
  refine W.anew hC.ex hC.cd hC.ow (hC.w hlk (ev_gdT rfl) args) (hC.w hov ev_gdO args) (g := F0 m pc lsr (.int (nI N) :: st)) rfl hd rfl (nI_pos (by omega)) (by rw [hcl]; omega) (by omega) (by rw [hcl]; omega) fun cA kA comp g1 g2 g3 g4 => ?_
  obtain ⟨kA', comp', k1, k2, k3, k4⟩ := (hC.K.2 t _ ht).2
  have hcA : E.2.2.1 t = cA := Option.some.inj (k4.symm.trans g1)
  rw [hcl, hz]
  refine kk p e R s m args below meth c _ locs (cells + 1) (slots + N) lsr hC (ev_R_new hR ?_ (by simp [hz]) (fun q hq => by rw [Array.getElem?_push, if_neg (by omega)])) hL h1 h2 (by omega) (by omega)
  show (H.push _)[sz]? = some (vp_cell _ _)
  rw [← hz, hcA, vp_cell_q]
  simp [arrV, va_rf, Array.ext_iff]
end EVH
