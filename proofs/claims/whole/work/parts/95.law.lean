/-! What the law's cases want: the script, what is left over from call to call, what is contradictory. -/
section SCR
variable {E : ev_E} {M : ev_M} {d pc pc' : Nat} {ls : List (Option Value)} {st : List Value} {h : ev_h} {sz k n : Nat} {Q : ev_Q}
theorem ev_sld {b L j : Nat} {xs : Nat → Int32} (hd : ev_d M pc .iaload 1 pc') (hX : va_X b L xs E.2.2.2.1 E.2.2.2.1.heap) (hb : b < ev_b E) (hj : j < L) (hN : L ≤ 65536) (kk : Ev E M d pc' ls (.int (xs j) :: st) h sz k n Q) : Ev E M d pc ls (.int (nI j) :: .ref b :: st) h sz k n Q := by
  obtain ⟨hd, rfl⟩ := hd
  intro p e R s m args below meth c H locs cells slots lsr hC hR hL h1 h2 h3 h4
  have kw := kk p e R s m args below meth c H locs cells slots lsr hC hR hL h1 h2 h3 h4
  have hX' : va_X b L xs s H := (hX.moved hC.wm.alike).kept (hR.2.2.2.2.1 b hb)
  obtain ⟨scr, g1, g2, g3, g4, g5⟩ := hX'
  have hcl : (nI j).toNatClampNeg = j := nI_clamp (by omega)
  exact W.iald (v := .int (xs j)) hC.ex hC.cd g1 g2 g3 (by rw [g4]; exact ev_in hj hN) (by rw [hcl]; exact g5 j hj) rfl rfl hd kw
theorem ev_slen {b L : Nat} {xs : Nat → Int32} (hd : ev_d M pc .arraylength 1 pc') (hX : va_X b L xs E.2.2.2.1 E.2.2.2.1.heap) (hb : b < ev_b E) (kk : Ev E M d pc' ls (.int (nI L) :: st) h sz k n Q) : Ev E M d pc ls (.ref b :: st) h sz k n Q := by
  obtain ⟨hd, rfl⟩ := hd
  intro p e R s m args below meth c H locs cells slots lsr hC hR hL h1 h2 h3 h4
  have kw := kk p e R s m args below meth c H locs cells slots lsr hC hR hL h1 h2 h3 h4
  have hX' : va_X b L xs s H := (hX.moved hC.wm.alike).kept (hR.2.2.2.2.1 b hb)
  obtain ⟨scr, g1, g2, g3, g4, g5⟩ := hX'
  exact W.alen (n := Int32.ofNat L) hC.ex hC.cd g1 g2 (by rw [g4] <;> rfl) rfl rfl hd kw
end SCR
section LIV
variable {E : ev_E} {X nc al fl c m cc ac : Nat} {nu on op th af ff : Nat → Int32} {V : Nat → Nat → Int32} {qs : Nat → qst} {N : nod} {ed : Nat → Nat → Int32} {zs : Nat → Nat} {cs : Nat → Int32} {ad : Nat → Nat} {F : Nat → Nat} {A : Nat → Nat → Int32} {T : Nat → Bool} {π : Nat → Nat} {cn co : Nat → Nat} {cq oq : Nat → Nat → Nat} {sn : Nat → Nat → Bool} {h : ev_h} {sz t : Nat}
/-- what holds between two calls -/
def LI (E : ev_E) (X t : Nat) (h : ev_h) (sz : Nat) : Prop := ∃ (nc al fl c m cc ac : Nat) (nu on op th af ff : Nat → Int32) (V : Nat → Nat → Int32) (qs : Nat → qst) (N : nod) (ed : Nat → Nat → Int32) (zs : Nat → Nat) (cs : Nat → Int32) (ad : Nat → Nat) (F : Nat → Nat) (A : Nat → Nat → Int32) (T : Nat → Bool) (π : Nat → Nat) (cn co : Nat → Nat) (cq oq : Nat → Nat → Nat) (sn : Nat → Nat → Bool) (o : Nat → Int64),
  PtAt E X nc al fl c m nu V cc on op th ac af ff qs N ed zs cs ad h ∧ nsp X N ad nc sz ∧ Rf E (X + 78) F A h ∧ h (X + 107) = some (lA E 1 o) ∧ rel nc al fl c m nu V cc on op th ac af ff qs N ed zs cs F A T π cn co cq oq sn ∧ al ≤ t
theorem LI.mk {o : Nat → Int64} (hP : PtAt E X nc al fl c m nu V cc on op th ac af ff qs N ed zs cs ad h) (hs : nsp X N ad nc sz) (hM : Rf E (X + 78) F A h) (ho : h (X + 107) = some (lA E 1 o)) (hR : rel nc al fl c m nu V cc on op th ac af ff qs N ed zs cs F A T π cn co cq oq sn) (hal : al ≤ t) : LI E X t h sz :=
  ⟨_, _, _, _, _, _, _, _, _, _, _, _, _, _, _, _, _, _, _, _, _, _, _, _, _, _, _, _, _, _, hP, hs, hM, ho, hR, hal⟩
theorem PtAt.out {x : va_E} (hP : PtAt E X nc al fl c m nu V cc on op th ac af ff qs N ed zs cs ad h) : PtAt E X nc al fl c m nu V cc on op th ac af ff qs N ed zs cs ad (ev_up h (X + 107) x) :=
  hP.kept (fun q a b => ev_up_n (by omega)) (fun i hi z a b => ev_up_n (by have := (hP.2.2.2.2.2.2.2.2.2.2 i hi).2; omega))
/-- the class's answer is put down -/
theorem ev_outS {M : ev_M} {d pc pc' k n : Nat} {ls : List (Option Value)} {st : List Value} {Q : ev_Q} {x : Int64} {o : Nat → Int64} (hd : ev_d M pc .lastore 1 pc') (hP : PtAt E X nc al fl c m nu V cc on op th ac af ff qs N ed zs cs ad h) (hM : Rf E (X + 78) F A h) (ho : h (X + 107) = some (lA E 1 o)) (kk : ∀ h' o', PtAt E X nc al fl c m nu V cc on op th ac af ff qs N ed zs cs ad h' → Rf E (X + 78) F A h' → h' (X + 107) = some (lA E 1 o') → o' 0 = x → Ev E M d pc' ls st h' sz k n Q) : Ev E M d pc ls (.long x :: .int (nI 0) :: .ref (X + 107) :: st) h sz k n Q :=
  ev_last hd ho (by omega) (by decide) (kk _ _ hP.out (hM.kept (fun q a b => ev_up_n (by omega))) ev_up_s (by simp [vp_updL]))
theorem Rf.cF {h' : ev_h} (hM : Rf E (X + 78) F A h) (hf : cF X h h') : Rf E (X + 78) F A h' := hM.kept (fun q a b => hf q (by omega) (by omega))
end LIV
theorem lgc {a b : Int32} (e : a = b) : lg_cmp a.toInt64 b.toInt64 = 0 := (lg_cmp_eq _ _).mpr (by rw [e])
theorem lgc1 : lg_cmp (Int64.ofNat 1) (Int64.ofNat 1) = 0 := (lg_cmp_eq _ _).mpr rfl
theorem lgc0 : lg_cmp (Int64.ofNat 0) (Int64.ofNat 0) = 0 := (lg_cmp_eq _ _).mpr rfl
theorem nI_inj {a b : Nat} {x : Int32} (ha : a < 65536) (hb : b < 65536) (h1 : x = nI a) (h2 : x = nI b) : a = b := (nI_eq (by omega) (by omega)).mp (h1.symm.trans h2)
theorem cx_order {x y a b : Int32} {kd cl : Nat} (hx : (∀ kd, kd < 6 → x ≠ nI kd) ∨ (∀ cl, cl < 4 → y ≠ nI cl) ∨ (x = nI 3 ∧ b < a)) (h1 : kd < 6) (h2 : x = nI kd) (h3 : cl < 4) (h4 : y = nI cl) (h5 : ¬ (kd = 3 ∧ b < a)) : False := by
  rcases hx with g | g | ⟨g1, g2⟩
  · exact g kd h1 h2
  · exact g cl h3 h4
  · exact h5 ⟨nI_inj (by omega) (by omega) h2 g1, g2⟩
theorem cx_layer {x y l : Int32} {nc i v : Nat} {N : nod} (hnc : nc ≤ 24) (hx : (∀ i, i < nc → x ≠ nI i) ∨ (∀ v, v < 10 → y ≠ nI v) ∨ l < -1 ∨ nI 5 < l ∨ (∃ i, i < nc ∧ x = nI i ∧ nK N i ≠ 4)) (h1 : i < nc) (h2 : x = nI i) (h3 : v < 10) (h4 : y = nI v) (h5 : -1 ≤ l) (h6 : l ≤ nI 5) (h7 : nK N i = 4) : False := by
  rcases hx with g | g | g | g | ⟨j, g1, g2, g3⟩
  · exact g i h1 h2
  · exact g v h3 h4
  · exact Int32.not_lt.mpr h5 g
  · exact Int32.not_lt.mpr h6 g
  · obtain rfl := nI_inj (by omega) (by omega) h2 g2
    exact g3 h7
theorem cx_edge {x y z : Int32} {nc i b w : Nat} {N : nod} (hnc : nc ≤ 24) (hx : (∀ i, i < nc → x ≠ nI i) ∨ (∀ v, v < 10 → y ≠ nI v) ∨ (∀ v, v < 10 → z ≠ nI v) ∨ (∃ i, i < nc ∧ x = nI i ∧ nK N i ≠ 5)) (h1 : i < nc) (h2 : x = nI i) (h3 : b < 10) (h4 : y = nI b) (h5 : w < 10) (h6 : z = nI w) (h7 : nK N i = 5) : False := by
  rcases hx with g | g | g | ⟨j, g1, g2, g3⟩
  · exact g i h1 h2
  · exact g b h3 h4
  · exact g w h5 h6
  · obtain rfl := nI_inj (by omega) (by omega) h2 g2
    exact g3 h7
theorem cx_term {x y z : Int32} {nc kd i j : Nat} (hx : (∀ kd, 6 ≤ kd → kd ≤ 9 → x ≠ nI kd) ∨ (∀ i, i < nc → y ≠ nI i) ∨ (x ≠ nI 9 ∧ ∀ i, i < nc → z ≠ nI i)) (h6 : 6 ≤ kd) (h9 : kd ≤ 9) (h2 : x = nI kd) (h3 : i < nc) (h4 : y = nI i) (h5 : (kd = 9 ∧ j = i) ∨ (kd ≠ 9 ∧ j < nc ∧ z = nI j)) : False := by
  rcases hx with g | g | ⟨g1, g2⟩
  · exact g kd h6 h9 h2
  · exact g i h3 h4
  · rcases h5 with ⟨e, -⟩ | ⟨-, e1, e2⟩
    · exact g1 (by rw [h2, e])
    · exact g2 j e1 e2
theorem term_j {z : Int32} {nc kd i j j' : Nat} (hnc : nc ≤ 24) (h5 : (kd = 9 ∧ j = i) ∨ (kd ≠ 9 ∧ j < nc ∧ z = nI j)) (h5' : (kd = 9 ∧ j' = i) ∨ (kd ≠ 9 ∧ j' < nc ∧ z = nI j')) : j' = j := by
  rcases h5 with ⟨e, e1⟩ | ⟨e, e1, e2⟩ <;> rcases h5' with ⟨g, g1⟩ | ⟨g, g1, g2⟩
  · rw [e1, g1]
  · exact absurd e g
  · exact absurd g e
  · exact nI_inj (by omega) (by omega) g2 e2
theorem rnE {A : Nat → Nat → Int32} {nc i w b : Nat} {N : nod} {ed : Nat → Nat → Int32} {zs : Nat → Nat} (hS : RS A nc N ed zs) (hi : i < nc) (hk : nK N i = 5) (hw : w < 10) (hb : b < 10) : bt (rn (fun v => A 8 (10 * i + v)) (A 8 (10 * i + w)) 10) b = bt (nR N i w) b := by
  have e : ∀ v, v < 10 → A 8 (10 * i + v) = ed i v := (hS.1 i hi).2.2.2.2.2.2.2.2 hk
  rw [rn_congr (e' := ed i) (fun v hv => e v hv), e w hw]
  exact rn_eq (hS.2.1 i hi hk) hw hb
/-- an edge that is there forbids what would go round -/
theorem edge_no {e r : Nat → Int32} {b w : Nat} (hG : okG e r) (hb : b < 10) (hw : w < 10) (h : b = w ∨ bt (r w) b = true) (he : bt (e b) w = true) : False := by
  have h1 := hG.2.1 b w hb hw he
  have h2 := hG.1.1 b hb
  rcases h with e | e
  · subst e; rw [h2] at h1; cases h1
  · rw [hG.1.2 b w b hb hw hb h1 e] at h2; cases h2
