/-! Ev: Object's constructor, instanceof, checkcast, switches, comparisons of longs, arraycopy. -/
section EVX
variable {E : ev_E} {M : ev_M} {d pc pc' : Nat} {ls : List (Option Value)} {st : List Value} {h : ev_h} {sz k n : Nat} {Q : ev_Q}
def ev_wO (own : String) (index : Nat) : Prop := Cond.methodLink own index Lib.objectInit ∈ lw_tbl ∧ Cond.instanceMethod Lib.objectInit ∈ lw_tbl ∧ Cond.code Lib.objectInit ⟨#[0xb1]⟩ 1 none ∈ lw_tbl
theorem ev_obj {index a : Nat} (hd : ev_d M pc (.invokespecial index) 3 pc') (hw : ev_wO M.1.cls index) (hst : Nat.ble (st.map fun v => v.category).sum 50 = true) (kk : Ev E M (d + 1) pc' ls st h sz k n Q) : Ev E M (d + 1) pc ls (.ref a :: st) h sz k n Q := by
  obtain ⟨hd, rfl⟩ := hd
  replace hst := Nat.le_of_ble_eq_true hst
  intro p e R s m args below meth c H locs cells slots lsr hC hR hL h1 h2 h3 h4
  exact W.objInit hC.ex hC.cd hC.ow (hC.w hw.1 (ev_gdT rfl) args) (hC.w hw.2.1 (ev_gdT rfl) args) (hC.w hw.2.2 (ev_gdT rfl) args) rfl (hL.1.trans hC.ml.symm) rfl hd (by omega) (by show 2 * 0 + (st.map fun v => v.category).sum + 12 ≤ R.locals; omega)
    (kk p e R s m args below meth c H locs cells slots lsr hC hR hL h1 h2 h3 h4)
theorem ev_instY {index a ci N : Nat} {C nm : String} {T : u_T} {fs : List Value} (hd : ev_d M pc (.instanceof index) 3 pc') (hl : Cond.classLink M.1.cls index nm ∈ lw_tbl) (hc : ev_cl[ci]? = some (C, T, N)) (hcast : C = nm ∨ Cond.castable C nm ∈ lw_tbl) (he : h a = some (oB ci fs))
    (kk : Ev E M d pc' ls (.int 1 :: st) h sz k n Q) : Ev E M d pc ls (.ref a :: st) h sz k n Q := by
  obtain ⟨hd, rfl⟩ := hd
  intro p e R s m args below meth c H locs cells slots lsr hC hR hL h1 h2 h3 h4
  have kw := kk p e R s m args below meth c H locs cells slots lsr hC hR hL h1 h2 h3 h4
  have hr := va_recv hC.K (ev_P1 (hR.1 a _ he)) hc (q0 := 0) rfl
  rcases hcast with rfl | hcast
  · exact va_instS hC.ex hC.cd hC.ow (hC.w hl (ev_gdT rfl) args) (hC.K.1 ci _ hc).2 hr hd kw
  · exact va_instY hC.ex hC.cd hC.ow (hC.w hl (ev_gdT rfl) args) (va_Nw.of rfl (hC.w hcast ev_gdC args)) hr hd kw
theorem ev_instN {index a ci N : Nat} {C nm : String} {T : u_T} {fs : List Value} (hd : ev_d M pc (.instanceof index) 3 pc') (hl : Cond.classLink M.1.cls index nm ∈ lw_tbl) (hc : ev_cl[ci]? = some (C, T, N)) (hno : Cond.not (.castable C nm) ∈ lw_tbl) (he : h a = some (oB ci fs))
    (kk : Ev E M d pc' ls (.int 0 :: st) h sz k n Q) : Ev E M d pc ls (.ref a :: st) h sz k n Q := by
  obtain ⟨hd, rfl⟩ := hd
  intro p e R s m args below meth c H locs cells slots lsr hC hR hL h1 h2 h3 h4
  have kw := kk p e R s m args below meth c H locs cells slots lsr hC hR hL h1 h2 h3 h4
  exact va_instNo hC.ex hC.cd hC.ow (hC.w hl (ev_gdT rfl) args) (hC.nc hno) (va_recv hC.K (ev_P1 (hR.1 a _ he)) hc (q0 := 0) rfl) hd kw
theorem ev_cast {index a ci N : Nat} {C nm : String} {T : u_T} {fs : List Value} (hd : ev_d M pc (.checkcast index) 3 pc') (hl : Cond.classLink M.1.cls index nm ∈ lw_tbl) (hc : ev_cl[ci]? = some (C, T, N)) (hcast : C = nm ∨ Cond.castable C nm ∈ lw_tbl) (he : h a = some (oB ci fs))
    (kk : Ev E M d pc' ls (.ref a :: st) h sz k n Q) : Ev E M d pc ls (.ref a :: st) h sz k n Q := by
  obtain ⟨hd, rfl⟩ := hd
  intro p e R s m args below meth c H locs cells slots lsr hC hR hL h1 h2 h3 h4
  have kw := kk p e R s m args below meth c H locs cells slots lsr hC hR hL h1 h2 h3 h4
  have hr := va_recv hC.K (ev_P1 (hR.1 a _ he)) hc (q0 := 0) rfl
  rcases hcast with rfl | hcast
  · exact va_castS hC.ex hC.cd hC.ow (hC.w hl (ev_gdT rfl) args) (hC.K.1 ci _ hc).2 hr hd kw
  · exact va_castY hC.ex hC.cd hC.ow (hC.w hl (ev_gdT rfl) args) (va_Nw.of rfl (hC.w hcast ev_gdC args)) hr hd kw
theorem ev_lcmp {x y : Int64} (hd : ev_d M pc .lcmp 1 pc') (kk : Ev E M d pc' ls (.int (lg_cmp x y) :: st) h sz k n Q) : Ev E M d pc ls (.long y :: .long x :: st) h sz k n Q := by
  obtain ⟨hd, rfl⟩ := hd
  exact ev_pure (fun hx hb _ kw => W.lcmp hx hb hd kw) kk
theorem ev_tabIn {dflt lo hi off : Int} {offs : Array Int} {len tgt : Nat} {x : Int32} (hd : ev_d M pc (.tableswitch dflt lo hi offs) len pc') (g1 : ¬ x.toInt < lo) (g2 : ¬ hi < x.toInt) (ho : offs[(x.toInt - lo).toNat]? = some off) (ht : (pc : Int) + off = (tgt : Int))
    (kk : Ev E M d tgt ls st h sz k n Q) : Ev E M d pc ls (.int x :: st) h sz k n Q := ev_pure (fun hx hb _ kw => lv_tableIn hx hb hd.1 g1 g2 ho ht kw) kk
theorem ev_tabOut {dflt lo hi : Int} {offs : Array Int} {len tgt : Nat} {x : Int32} (hd : ev_d M pc (.tableswitch dflt lo hi offs) len pc') (g : x.toInt < lo ∨ hi < x.toInt) (ht : (pc : Int) + dflt = (tgt : Int))
    (kk : Ev E M d tgt ls st h sz k n Q) : Ev E M d pc ls (.int x :: st) h sz k n Q := ev_pure (fun hx hb _ kw => lv_tableOut hx hb hd.1 g ht kw) kk
theorem ev_look {dflt off : Int} {ps : Array (Int × Int)} {len tgt : Nat} {x : Int32} (hd : ev_d M pc (.lookupswitch dflt ps) len pc') (hp : (ps.toList.zip (ps.toList.drop 1)).all (fun (a, next) => a.1 < next.1) = true) (ho : Op.lookupswitch.offset ps.toList dflt x.toInt = off) (ht : (pc : Int) + off = (tgt : Int))
    (kk : Ev E M d tgt ls st h sz k n Q) : Ev E M d pc ls (.int x :: st) h sz k n Q := ev_pure (fun hx hb _ kw => lv_lookup hx hb hd.1 hp ho ht kw) kk
def ev_wA (own : String) (index : Nat) : Prop := Cond.methodLink own index arraycopyName ∈ lw_tbl ∧ Cond.native arraycopyName ∈ lw_tbl ∧ Cond.static arraycopyName ∈ lw_tbl ∧ Cond.initialized "java/lang/System" ∈ lw_tbl
/-- arraycopy of ints -/
theorem ev_copy {index a0 a n0 n1 sp dp len : Nat} {f g : Nat → Int32} (hd : ev_d M pc (.invokestatic index) 3 pc') (hw : ev_wA M.1.cls index) (he0 : h a0 = some (iA E n0 f)) (he : h a = some (iA E n1 g)) (hn0 : n0 ≤ 65536) (hn1 : n1 ≤ 65536) (g4 : sp + len ≤ n0) (g5 : dp + len ≤ n1) (hst : Nat.ble (st.map fun v => v.category).sum 16 = true)
    (kk : Ev E M (d + 1) pc' ls st (ev_up h a (iA E n1 (va_cpy f g sp dp len))) sz k n Q) : Ev E M (d + 1) pc ls (.int (nI len) :: .int (nI dp) :: .ref a :: .int (nI sp) :: .ref a0 :: st) h sz k n Q := by
  obtain ⟨hd, rfl⟩ := hd
  replace hst := Nat.le_of_ble_eq_true hst
  intro p e R s m args below meth c H locs cells slots lsr hC hR hL h1 h2 h3 h4 T hT X
  have c1 : (nI sp).toNatClampNeg = sp := nI_clamp (by omega)
  have c2 : (nI dp).toNatClampNeg = dp := nI_clamp (by omega)
  have c3 : (nI len).toNatClampNeg = len := nI_clamp (by omega)
  have hc0 : H[a0]? = some (vp_cell (E.2.2.1 0) (n0, .inl f)) := hR.1 a0 _ he0
  have hc1 : H[a]? = some (vp_cell (E.2.2.1 0) (n1, .inl g)) := hR.1 a _ he
  obtain ⟨-, k0, hk0, cm0, hkk0⟩ := (hC.K.2 0 _ rfl).1 n0 (fun j => .int (f j))
  obtain ⟨-, k1, hk1, cm1, hkk1⟩ := (hC.K.2 0 _ rfl).1 n1 (fun j => .int (g j))
  obtain ⟨vm', X', step⟩ := X.arraycopy hC.ex hC.ow (hC.w hw.1 (ev_gdT rfl) args) (hC.w hw.2.1 (ev_gdT rfl) args) (hC.w hw.2.2.1 (ev_gdT rfl) args) (hC.w hw.2.2.2 (ev_gdT rfl) args) (src := a0) (dst := a) (cs := vp_cell (E.2.2.1 0) (n0, .inl f)) (cd := vp_cell (E.2.2.1 0) (n1, .inl g)) (srcPos := nI sp) (destPos := nI dp) (n := nI len) (by rw [hT]; exact hc0) (by rw [hT]; exact hc1)
    (fun _ h => by cases h) (fun _ h => by cases h) (fun h => by cases h) (fun h => by cases h) hk0 hk1 hkk0 hkk1 rfl (nI_pos (by omega)) (nI_pos (by omega)) (nI_pos (by omega))
    (by rw [nI_toInt (by omega), nI_toInt (by omega)]; show ¬ _ > ((arrV (E.2.2.1 0) n0 (fun j => .int (f j))).slots.size : Int); rw [arrV_size]; omega)
    (by rw [nI_toInt (by omega), nI_toInt (by omega)]; show ¬ _ > ((arrV (E.2.2.1 0) n1 (fun j => .int (g j))).slots.size : Int); rw [arrV_size]; omega)
    (fun vm₁ _ i hi => by
      rw [c3] at hi
      have e0 : (vp_cell (E.2.2.1 0) (n0, .inl f)).slots.getD ((nI sp).toNatClampNeg + i) .null = .int (f (sp + i)) := by
        show (arrV (E.2.2.1 0) n0 (fun j => .int (f j))).slots.getD _ _ = _
        rw [c1, Array.getD_eq_getD_getElem?, arrV_read _ _ (by omega)]
        rfl
      rw [e0]
      exact ⟨rfl, trivial⟩)
    (g := F0 m pc lsr (.int (nI len) :: .int (nI dp) :: .ref a :: .int (nI sp) :: .ref a0 :: st)) rfl (hL.1.trans hC.ml.symm) (rest := st) rfl (by rw [hC.cd]; exact hd) (by omega) (by
      have : nativeFrameWords "java/lang/System" "arraycopy" 5 ≤ 30 := by decide +kernel
      show 2 * 0 + (st.map fun v => v.category).sum + _ ≤ _; omega)
  have e1 : copied (vp_cell (E.2.2.1 0) (n0, .inl f)) (vp_cell (E.2.2.1 0) (n1, .inl g)) (nI sp) (nI dp) (nI len) = vp_cell (E.2.2.1 0) (n1, .inl (va_cpy f g sp dp len)) := by
    have h0 := va_copied (fun z : Int32 => Value.int z) (E.2.2.1 0) (E.2.2.1 0) (n0 := n0) (n1 := n1) (sp := sp) (dp := dp) (n := len) f g g4
    show (arrV (E.2.2.1 0) n1 (fun j => Value.int (g j))).storeRun (nI dp).toNatClampNeg ((arrV (E.2.2.1 0) n0 (fun j => Value.int (f j))).stretch (nI sp).toNatClampNeg (nI len).toNatClampNeg) = _
    rw [c1, c2, c3]
    exact h0
  rw [e1] at X' step
  have hl : a < H.size := (Array.getElem?_eq_some_iff.mp hc1).1
  have hheap : ((T.setVm vm').setCell a (vp_cell (E.2.2.1 0) (n1, .inl (va_cpy f g sp dp len)))).heap = H.setIfInBounds a (vp_cell (E.2.2.1 0) (n1, .inl (va_cpy f g sp dp len))) := by rw [← hT]; rfl
  have oq : ∀ q : Nat, q ≠ a → (H.setIfInBounds a (vp_cell (E.2.2.1 0) (n1, .inl (va_cpy f g sp dp len))))[q]? = H[q]? := fun q hq => by simp [Array.getElem?_setIfInBounds, Ne.symm hq]
  have hR' := ev_R_up (i := 0) (x' := .inl (E.2.2.1 0, n1, .inl (va_cpy f g sp dp len))) hR he (show (H.setIfInBounds a _)[a]? = some _ by simp [Array.getElem?_setIfInBounds, hl]) (by simp) oq
  obtain ⟨t, a1, b1⟩ := kk p e R s m args below meth c _ _ cells slots lsr hC ⟨hR'.1, hR'.2.1, hR'.2.2.1, hR'.2.2.2.1, hR'.2.2.2.2.1, fun q hq => by
      rcases List.mem_append.mp hq with h | h
      · exact hR.2.2.2.2.2 q h
      · obtain ⟨z, -, hz⟩ := List.mem_map.mp h
        rw [← hz]
        exact hR.2.2.2.1 a _ he⟩ hL h1 h2 h3 h4 _ hheap X'
  exact ⟨t, step t a1, b1⟩
end EVX
theorem nI_mul (a b : Nat) : nI a * nI b = nI (a * b) := (Int32.ofNat_mul a b).symm
theorem bz0 : narrow .boolean (.int (nI 0)) = .int (nI 0) := by decide +kernel
theorem bz1 : narrow .boolean (.int (nI 1)) = .int (nI 1) := by decide +kernel
theorem nI_sub {a b : Nat} (h : b ≤ a) : nI a - nI b = nI (a - b) := by
  have h1 : nI (a - b) + nI b = nI a := by rw [nI_add, Nat.sub_add_cancel h]
  rw [← h1]
  simp
theorem nI_sub1 (a : Nat) : nI (a + 1) - nI 1 = nI a := nI_sub (by omega)
/-- truth as an int -/
def b2 (b : Bool) : Int32 := if b = true then nI 1 else nI 0
theorem b2_n (b : Bool) : narrow .boolean (.int (b2 b)) = .int (b2 b) := by cases b <;> decide +kernel
theorem b2_t : b2 true = nI 1 := rfl
theorem b2_f : b2 false = nI 0 := rfl
theorem b2_0 {b : Bool} : b2 b = 0 ↔ b = false := by cases b <;> simp [b2] <;> decide +kernel
