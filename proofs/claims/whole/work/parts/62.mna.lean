/-! new int[N][K]: the outer array at the heap's end, the inner ones behind it in a row. -/
theorem mn_ov {u U : State} {A B : Array Value} (hvm : u.vm.Alike U.vm) (h : (Cond.arrayOver (.array .int)).before A u = true) : (Cond.arrayOver (.array .int)).before B U = true := by
  simp only [Cond.before, Cond.holds, Cond.value, beq_iff_eq, Option.bind_eq_some_iff, Option.map_eq_some_iff] at h ⊢
  obtain ⟨comp, h1, c, h2, k, h3, h4⟩ := h
  obtain ⟨k', hk', he⟩ := hvm.2.2 _ _ h3
  refine ⟨comp, by rw [hvm.findClass]; exact h1, c, ?_, k', hk', ?_⟩
  · refine Eq.trans ?_ h2
    refine (va_idx_bare U.vm comp).symm.trans (Eq.trans ?_ (va_idx_bare u.vm comp))
    first | rw [hvm.bare_eq] | rw [← hvm.bare_eq]
  · have hk : k'.kind = k.kind := by rw [he]
    rw [hk, hvm.findClass]
    exact h4
theorem mn_gd : ev_gd (.arrayOver (.array .int)) := fun _ _ _ _ hW h1 => mn_ov hW.alike h1
theorem mn_out (c : ClassId) (N a : Nat) : ∀ i : Nat, Jvm.Free.Multi.outerC c N a i = arrV c N (fun j => va_rf (if j < i then some (a + 1 + j) else none))
  | 0 => (arrV_new c N Value.null).trans (congrArg (arrV c N) (funext fun j => by simp [va_rf]))
  | i + 1 => by
    have ih := mn_out c N a i
    simp only [Jvm.Free.Multi.outerC]
    rw [ih, arrV_store]
    refine congrArg (arrV c N) (funext fun j => ?_)
    by_cases h1 : j = i
    · subst h1; simp [updV, va_rf]
    · have h2 : (j < i + 1) = (j < i) := propext ⟨fun q => by omega, fun q => by omega⟩
      simp [updV, h1, h2]
theorem ev_R_news {E : ev_E} {h : ev_h} {sz N : Nat} {H H' : Heap} {locs : List Loc} {x y : va_E} (hR : ev_R E h sz H locs) (hx : va_at E.2.1 ev_cl (sz, x) H') (hy : ∀ j, j < N → va_at E.2.1 ev_cl (sz + 1 + j, y) H') (hz : H'.size = sz + 1 + N) (ho : ∀ q, q < sz → H'[q]? = H[q]?) : ev_R E (ev_upr (ev_up h sz x) (sz + 1) N y) (sz + 1 + N) H' locs := by
  obtain ⟨r1, r2, r3, r4, r5, r6⟩ := hR
  have cs : ∀ q z, ev_upr (ev_up h sz x) (sz + 1) N y q = some z → (∃ j, j < N ∧ q = sz + 1 + j ∧ z = y) ∨ (q = sz ∧ z = x) ∨ (q ≠ sz ∧ h q = some z) := by
    intro q z hq
    unfold ev_upr at hq
    by_cases hc : sz + 1 ≤ q ∧ q < sz + 1 + N
    · rw [if_pos hc] at hq
      cases hq
      exact Or.inl ⟨q - (sz + 1), by omega, by omega, rfl⟩
    · rw [if_neg hc] at hq
      by_cases hqa : q = sz
      · subst hqa
        rw [ev_up_s] at hq
        cases hq
        exact Or.inr (Or.inl ⟨rfl, rfl⟩)
      · rw [ev_up_n hqa] at hq
        exact Or.inr (Or.inr ⟨hqa, hq⟩)
  refine ⟨fun q z hq => ?_, hz, by omega, fun q z hq => ?_, fun q hq => ?_, r6⟩
  · rcases cs q z hq with ⟨j, hj, rfl, rfl⟩ | ⟨rfl, rfl⟩ | ⟨hne, hq⟩
    · exact hy j hj
    · exact hx
    · have hl : q < H.size := (r1 q z hq).lt
      exact (r1 q z hq).kept (ho q (by rw [← r2]; exact hl))
  · rcases cs q z hq with ⟨j, hj, rfl, rfl⟩ | ⟨rfl, rfl⟩ | ⟨hne, hq⟩
    · omega
    · omega
    · exact r4 q z hq
  · rw [ho q (by omega)]
    exact r5 q hq
section MNA
variable {E : ev_E} {M : ev_M} {d pc pc' : Nat} {ls : List (Option Value)} {st : List Value} {h : ev_h} {sz k n : Nat} {Q : ev_Q}
theorem ev_mna {index N K : Nat} (hd : ev_d M pc (.multianewarray index 2) 4 pc') (hlk : Cond.classLink M.1.cls index "[[I" ∈ lw_tbl) (hov : Cond.arrayOver (.array .int) ∈ lw_tbl) (harr : Cond.arrayClass .int ∈ lw_tbl) (hN : N ≤ 65536) (hK : K ≤ 65536)
    (kk : Ev E M d pc' ls (.ref sz :: st) (ev_upr (ev_up h sz (rA E 5 N (fun i => if i < N then some (sz + 1 + i) else none))) (sz + 1) N (iA E K (fun _ => nI 0))) (sz + 1 + N) k n Q) : Ev E M d pc ls (.int (nI K) :: .int (nI N) :: st) h sz (k + (1 + N)) (n + (N + N * K)) Q := by
  obtain ⟨hd, rfl⟩ := hd
  intro p e R s m args below meth c H locs cells slots lsr hC hR hL h1 h2 h3 h4 T hT X
  have cN : (nI N).toNatClampNeg = N := nI_clamp (by omega)
  have cK : (nI K).toNatClampNeg = K := nI_clamp (by omega)
  have hz : H.size = sz := hR.2.1
  obtain ⟨vm₁, cA, comp, -, fA, fC, -, -, X', step⟩ := X.multianewarray2F hC.ex hC.ow (ty := .int) (hC.w hlk (ev_gdT rfl) args) (hC.w hov mn_gd args) (hC.w harr ev_gdA args) (g := F0 m pc lsr (.int (nI K) :: .int (nI N) :: st)) rfl (by rw [hC.cd]; exact hd) rfl (nI_pos (by omega)) (nI_pos (by omega)) (by rw [cN]; omega) (by rw [cK]; show K * 4 ≤ _; omega) (by rw [cK]; omega) rfl rfl (by rw [cN]; omega) (by rw [cN, cK]; omega)
  rw [cN, cK] at X' step
  have e0 : E.2.2.1 0 = comp := Option.some.inj ((show s.vm.findClass "[I" = some (E.2.2.1 0) from (hC.K.2 0 _ rfl).2).symm.trans fC)
  have e5 : E.2.2.1 5 = cA := Option.some.inj ((show s.vm.findClass "[[I" = some (E.2.2.1 5) from (hC.K.2 5 _ rfl).2).symm.trans fA)
  generalize hF : Jvm.Free.Multi.fill (T.setVm vm₁) cA comp N K (defaultValue .int) N = F at X' step
  have hTh : (T.setVm vm₁).heap = H := hT
  obtain ⟨f1, f2, -, -⟩ := Jvm.Free.Multi.fill_facts (T.setVm vm₁) cA comp N K (defaultValue .int) N
  rw [hF, hTh, hz] at f1 f2
  have hold : ∀ x : Nat, x < sz → F.heap[x]? = H[x]? := fun x hx => by
    have := Jvm.Free.Multi.fill_old (T.setVm vm₁) cA comp N K (defaultValue .int) (a := x) (by rw [hTh, hz]; exact hx) N
    rw [hF, hTh] at this
    exact this
  have hin : ∀ j : Nat, j < N → F.heap[sz + 1 + j]? = some (Jvm.Free.Multi.innerC comp K (defaultValue .int)) := fun j hj => by
    have := Jvm.Free.Multi.fill_inner (T.setVm vm₁) cA comp N K (defaultValue .int) N j hj
    rw [hF, hTh, hz] at this
    exact this
  have hR' : ev_R E (ev_upr (ev_up h sz (rA E 5 N (fun i => if i < N then some (sz + 1 + i) else none))) (sz + 1) N (iA E K (fun _ => nI 0))) (sz + 1 + N) F.heap locs := by
    refine ev_R_news hR ?_ (fun j hj => ?_) f1 hold
    · show F.heap[sz]? = some (vp_cell _ _)
      rw [f2, e5, vp_cell_q, mn_out]
    · show F.heap[sz + 1 + j]? = some (vp_cell _ _)
      rw [hin j hj, e0]
      exact congrArg some (arrV_new comp K (defaultValue .int))
  obtain ⟨t, a1, b1⟩ := kk p e R s m args below meth c F.heap locs (cells + 1 + N) (slots + N + N * K) lsr hC hR' hL h1 h2 (by omega) (by omega) F rfl X'
  refine ⟨t, step t ?_, b1⟩
  have e' : T.heap.size = sz := by rw [hT, hz]
  rw [e']
  exact a1
end MNA
