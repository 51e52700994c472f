/-! The same, of new nodes, answers, forms and questions. -/
section KEEP2
variable {nc al fl c m : Nat} {nu : Nat → Int32} {V : Nat → Nat → Int32} {cc : Nat} {on op th : Nat → Int32} {ac : Nat} {af ff : Nat → Int32} {qs : Nat → qst} {N : nod} {ed : Nat → Nat → Int32} {zs : Nat → Nat} {cs : Nat → Int32}
variable {F F' : Nat → Nat} {A A' : Nat → Nat → Int32} {T : Nat → Bool} {π : Nat → Nat} {cn co : Nat → Nat} {cq oq : Nat → Nat → Nat} {sn : Nat → Nat → Bool}
theorem nX_n {i kd cl : Nat} {a b : Int32} {f g : Nat → Int32} : nK (nX N i kd cl a b f g) i = kd ∧ nC (nX N i kd cl a b f g) i = cl ∧ nA (nX N i kd cl a b f g) i = a ∧ nB (nX N i kd cl a b f g) i = b ∧ nY (nX N i kd cl a b f g) i = f ∧ nR (nX N i kd cl a b f g) i = g :=
  ⟨u1_s, u1_s, u1_s, u1_s, u1_s, u1_s⟩
theorem nX_o {i j kd cl : Nat} {a b : Int32} {f g : Nat → Int32} (h : j ≠ i) : nK (nX N i kd cl a b f g) j = nK N j ∧ nC (nX N i kd cl a b f g) j = nC N j ∧ nA (nX N i kd cl a b f g) j = nA N j ∧ nB (nX N i kd cl a b f g) j = nB N j ∧ nY (nX N i kd cl a b f g) j = nY N j ∧ nR (nX N i kd cl a b f g) j = nR N j :=
  ⟨u1_n h, u1_n h, u1_n h, u1_n h, u1_n h, u1_n h⟩
theorem nX_LQ {i j kd cl : Nat} {a b : Int32} {f g : Nat → Int32} (h : j ≠ i) : nL (nX N i kd cl a b f g) j = nL N j ∧ nQ (nX N i kd cl a b f g) j = nQ N j := by
  unfold nL nQ
  rw [(nX_o h).2.2.1, (nX_o h).2.2.2.1]
  exact ⟨rfl, rfl⟩
theorem okR_0 : okR (fun _ => nI 0) := okG_0.1
/-- one more node -/
theorem ndR.add {kd cl z0 : Nat} {a b c0 : Int32} {f : Nat → Int32} (h : ndR nc N ed zs cs F A) (hnc : nc ≠ 24) (h9 : kd ≤ 9) (hF : F' 2 = F 2 + 1) (hz : z0 ≤ 40)
    (a2 : A' 2 = upd (A 2) nc (nI kd)) (a3 : ∀ i, i < nc → A' 3 i = A 3 i) (a3' : kd < 6 → A' 3 nc = nI cl ∧ cl < 4) (a4 : A' 4 = upd (A 4) nc a) (a5 : A' 5 = upd (A 5) nc b) (a6 : A' 6 = upd (A 6) nc (nI z0))
    (a7 : ∀ i v, i < nc → v < 10 → A' 7 (10 * i + v) = A 7 (10 * i + v)) (a7' : kd = 4 → ∀ v, v < 10 → A' 7 (10 * nc + v) = f v ∧ f v = -1) (a8 : ∀ i v, i < nc → v < 10 → A' 8 (10 * i + v) = A 8 (10 * i + v)) (a8' : kd = 5 → ∀ v, v < 10 → A' 8 (10 * nc + v) = nI 0)
    (hk : ¬ kd < 6 → ∃ i j, i < nc ∧ j < nc ∧ a = nI i ∧ b = nI j ∧ c0 = cs i ||| cs j ∧ z0 = (if kd = 9 then 1 + zs i else 1 + zs i + zs j) ∧ (kd = 9 → j = i)) (hk' : kd < 6 → z0 = 1 ∧ c0 = nI 1 <<< (nI cl &&& 31)) :
    ndR (nc + 1) (nX N nc kd cl a b f (fun _ => nI 0)) (u1 ed nc (fun _ => nI 0)) (u1 zs nc z0) (u1 cs nc c0) F' A' := by
  obtain ⟨g1, g2, ⟨g3, g4, g5, g6⟩, g7, g8, g9⟩ := h
  have hLQ : ¬ kd < 6 → nL (nX N nc kd cl a b f (fun _ => nI 0)) nc < nc ∧ nQ (nX N nc kd cl a b f (fun _ => nI 0)) nc < nc ∧ nA (nX N nc kd cl a b f (fun _ => nI 0)) nc = nI (nL (nX N nc kd cl a b f (fun _ => nI 0)) nc) ∧ nB (nX N nc kd cl a b f (fun _ => nI 0)) nc = nI (nQ (nX N nc kd cl a b f (fun _ => nI 0)) nc) := fun q => by
    obtain ⟨i, j, hi, hj, ea, eb, -, -, -⟩ := hk q
    unfold nL nQ
    rw [nX_n.2.2.1, nX_n.2.2.2.1, ea, eb, nI_clamp (by omega), nI_clamp (by omega)]
    exact ⟨hi, hj, rfl, rfl⟩
  refine ⟨by rw [hF, g1], Nat.lt_of_le_of_ne g2 hnc, ⟨fun j hj => ?_, fun j hj kj => ?_, fun j hj kj w hw => ?_, fun j hj kj => ?_⟩, ⟨fun j hj => ?_, fun j hj kj => ?_⟩, fun j hj => ?_, fun j hj => ?_⟩
  · by_cases e : j = nc
    · subst e
      obtain ⟨x1, x2, x3, x4, x5, x6⟩ := nX_n (N := N) (i := j) (kd := kd) (cl := cl) (a := a) (b := b) (f := f) (g := fun _ => nI 0)
      rw [x1, x2, x3, x4, x5, u1_s, u1_s, a2, a4, a5, a6, pk_us, pk_us, pk_us, pk_us]
      exact ⟨rfl, h9, fun q => a3' q, rfl, rfl, rfl, hz, fun q v hv => (a7' q v hv).1, fun q v hv => a8' q v hv⟩
    · obtain ⟨x1, x2, x3, x4, x5, x6⟩ := nX_o (N := N) (i := nc) (j := j) (kd := kd) (cl := cl) (a := a) (b := b) (f := f) (g := fun _ => nI 0) e
      obtain ⟨n1, n2, n3, n4, n5, n6, n7, n8, n9⟩ := g3 j (by omega)
      rw [x1, x2, x3, x4, x5, u1_n e, u1_n e, a2, a4, a5, a6, pk_un e, pk_un e, pk_un e, pk_un e, a3 j (by omega)]
      exact ⟨n1, n2, n3, n4, n5, n6, n7, fun q v hv => (a7 j v (by omega) hv).trans (n8 q v hv), fun q v hv => (a8 j v (by omega) hv).trans (n9 q v hv)⟩
  · by_cases e : j = nc
    · subst e; rw [u1_s, nX_n.2.2.2.2.2]; exact okG_0
    · rw [u1_n e, (nX_o e).2.2.2.2.2]; exact g4 j (by omega) ((nX_o e).1 ▸ kj)
  · by_cases e : j = nc
    · subst e; rw [nX_n.2.2.2.2.1, (a7' (by rw [nX_n.1] at kj; exact kj) w hw).2]; exact ⟨by decide +kernel, by decide +kernel⟩
    · rw [(nX_o e).2.2.2.2.1]; exact g5 j (by omega) ((nX_o e).1 ▸ kj) w hw
  · by_cases e : j = nc
    · subst e
      obtain ⟨y1, y2, y3, y4⟩ := hLQ (by rw [nX_n.1] at kj; exact kj)
      exact ⟨y3, y4, y1, y2⟩
    · rw [(nX_o e).2.2.1, (nX_o e).2.2.2.1, (nX_LQ e).1, (nX_LQ e).2]; exact g6 j (by omega) ((nX_o e).1 ▸ kj)
  · by_cases e : j = nc
    · subst e; rw [nX_n.2.2.2.2.2]; exact okR_0
    · rw [(nX_o e).2.2.2.2.2]; exact g7.1 j (by omega)
  · by_cases e : j = nc
    · subst e
      obtain ⟨y1, y2, -, -⟩ := hLQ (by rw [nX_n.1] at kj; exact kj)
      exact ⟨y1, y2⟩
    · rw [(nX_LQ e).1, (nX_LQ e).2]; exact g7.2 j (by omega) ((nX_o e).1 ▸ kj)
  · by_cases e : j = nc
    · subst e
      rw [nX_n.1, u1_s]
      refine ⟨hz, fun q => (hk' q).1, fun q => ?_, fun q q' => ?_⟩
      · obtain ⟨i, k, hi, hk2, ea, eb, -, ez, -⟩ := hk (by omega)
        have eL : nL (nX N j kd cl a b f (fun _ => nI 0)) j = i := by unfold nL; rw [nX_n.2.2.1, ea, nI_clamp (by omega)]
        rw [eL, u1_n (by omega), ez, if_pos q]
      · obtain ⟨i, k, hi, hk2, ea, eb, -, ez, -⟩ := hk (by omega)
        have eL : nL (nX N j kd cl a b f (fun _ => nI 0)) j = i := by unfold nL; rw [nX_n.2.2.1, ea, nI_clamp (by omega)]
        have eQ : nQ (nX N j kd cl a b f (fun _ => nI 0)) j = k := by unfold nQ; rw [nX_n.2.2.2.1, eb, nI_clamp (by omega)]
        rw [eL, eQ, u1_n (by omega), u1_n (by omega), ez, if_neg (by omega)]
    · obtain ⟨z1, z2, z3, z4⟩ := g8 j (by omega)
      rw [(nX_o e).1, (nX_LQ e).1, (nX_LQ e).2, u1_n e]
      refine ⟨z1, z2, fun q => ?_, fun q q' => ?_⟩
      · have := g7.2 j (by omega) (by omega)
        rw [u1_n (by omega)]; exact z3 q
      · have := g7.2 j (by omega) (by omega)
        rw [u1_n (by omega), u1_n (by omega)]; exact z4 q q'
  · by_cases e : j = nc
    · subst e
      rw [nX_n.1, nX_n.2.1, u1_s]
      refine ⟨fun q => (hk' q).2, fun q => ?_, fun q => ?_⟩
      rotate_left
      · obtain ⟨i, k, hi, hk2, ea, eb, -, -, e9⟩ := hk (by omega)
        unfold nL nQ
        rw [nX_n.2.2.1, nX_n.2.2.2.1, ea, eb, e9 q]
      obtain ⟨i, k, hi, hk2, ea, eb, ec, -, -⟩ := hk q
      have eL : nL (nX N j kd cl a b f (fun _ => nI 0)) j = i := by unfold nL; rw [nX_n.2.2.1, ea, nI_clamp (by omega)]
      have eQ : nQ (nX N j kd cl a b f (fun _ => nI 0)) j = k := by unfold nQ; rw [nX_n.2.2.2.1, eb, nI_clamp (by omega)]
      rw [eL, eQ, u1_n (by omega), u1_n (by omega), ec]
    · obtain ⟨z1, z2, z3⟩ := g9 j (by omega)
      rw [(nX_o e).1, (nX_o e).2.1, (nX_LQ e).1, (nX_LQ e).2, u1_n e]
      refine ⟨z1, fun q => ?_, z3⟩
      have := g7.2 j (by omega) q
      rw [u1_n (by omega), u1_n (by omega)]; exact z2 q
theorem nX_say {kd cl : Nat} {a b : Int32} {f g : Nat → Int32} (h : okT N nc) : ∀ i, i < nc → ∀ u v, say (nX N nc kd cl a b f g) u v i = say N u v i := say_ext (fun i hi => nX_o (by omega)) h
theorem kp_order {kd cl : Nat} {a b : Int32} {f : Nat → Int32} (h : rel nc al fl c m nu V cc on op th ac af ff qs N ed zs cs F A T π cn co cq oq sn) (hnc : nc ≠ 24) (hkd : kd < 6) (hcl : cl < 4) (hf : ∀ v, v < 10 → f v = -1) (hA : oA (uA (uA (uA (uA (uA A 2 (F 2) (nI kd)) 3 (F 2) (nI cl)) 4 (F 2) a) 5 (F 2) b) 6 (F 2) (nI 1)) A' (F 2) 10) : rel (nc + 1) al fl c m nu V cc on op th ac af ff qs (nX N nc kd cl a b f (fun _ => nI 0)) (u1 ed nc (fun _ => nI 0)) (u1 zs nc 1) (u1 cs nc (nI 1 <<< (nI cl &&& 31))) (uF (uF F 0 0) 2 ((F 2) + 1)) A' T π cn co cq oq sn := by
  have e2 : F 2 = nc := h.2.1.1
  have g2 := h.2.1.2.1
  rw [e2] at hA
  obtain ⟨o1, o7, o8⟩ := hA
  refine h.nods (ndR.add h.2.1 hnc (by omega) rfl (by decide) (o1 2 (by decide) (by decide)) (fun i hi => ?_) (fun _ => ⟨?_, hcl⟩) (o1 4 (by decide) (by decide)) (o1 5 (by decide) (by decide)) (o1 6 (by decide) (by decide)) (fun i v hi hv => ?_) (fun _ v hv => ⟨?_, hf v hv⟩) (fun i v hi hv => ?_) (fun _ v hv => ?_) (fun q => absurd hkd q) (fun _ => ⟨rfl, rfl⟩)) (by omega) (Nat.le_refl _) (fun _ => nX_say h.2.1.okT) (fun z hz => ?_) rfl rfl rfl
  · rw [o1 3 (by decide) (by decide)]; show upd (A 3) nc (nI cl) i = A 3 i; exact pk_un (by omega)
  · rw [o1 3 (by decide) (by decide)]; show upd (A 3) nc (nI cl) nc = nI cl; exact pk_us
  · rw [o7, if_neg (by omega)]; rfl
  · rw [o7, if_pos (by omega), hf v hv]
  · rw [o8, if_neg (by omega)]; rfl
  · rw [o8, if_pos (by omega)]
  · rw [o1 z (by omega) (by omega), uA_a (by omega), uA_a (by omega), uA_a (by omega), uA_a (by omega), uA_a (by omega)]
theorem kp_term {kd i j : Nat} {f : Nat → Int32} (h : rel nc al fl c m nu V cc on op th ac af ff qs N ed zs cs F A T π cn co cq oq sn) (hnc : nc ≠ 24) (h6 : 6 ≤ kd) (h9 : kd ≤ 9) (hi : i < nc) (hj : j < nc) (h9' : kd = 9 → j = i) (hz : (if kd = 9 then 1 + zs i else 1 + zs i + zs j) ≤ 40) : rel (nc + 1) al fl c m nu V cc on op th ac af ff qs (nX N nc kd 0 (nI i) (nI j) f (fun _ => nI 0)) (u1 ed nc (fun _ => nI 0)) (u1 zs nc (if kd = 9 then 1 + zs i else 1 + zs i + zs j)) (u1 cs nc (cs i ||| cs j)) (uF (uF F 0 0) 2 ((F 2) + 1)) (uA (uA (uA (uA A 2 (F 2) (nI kd)) 4 (F 2) (nI i)) 5 (F 2) (nI j)) 6 (F 2) (nI (if kd = 9 then 1 + zs i else 1 + zs i + zs j))) T π cn co cq oq sn := by
  have e2 : F 2 = nc := h.2.1.1
  have g2 := h.2.1.2.1
  refine h.nods (ndR.add h.2.1 hnc h9 rfl hz ?_ (fun _ _ => rfl) (fun q => absurd q (by omega)) ?_ ?_ ?_ (fun _ _ _ _ => rfl) (fun q => absurd q (by omega)) (fun _ _ _ _ => rfl) (fun q => absurd q (by omega)) (fun _ => ⟨i, j, hi, hj, rfl, rfl, rfl, rfl, h9'⟩) (fun q => absurd q (by omega))) (by omega) (Nat.le_refl _) (fun _ => nX_say h.2.1.okT) (fun z hz => ?_) rfl rfl rfl
  · rw [← e2]; rfl
  · rw [← e2]; rfl
  · rw [← e2]; rfl
  · rw [← e2]; rfl
  · rw [uA_a (by omega), uA_a (by omega), uA_a (by omega), uA_a (by omega)]
/-- an answer -/
theorem rel.ans {c' : Nat} {f' : Nat → Int32} (h : rel nc al fl c m nu V cc on op th ac af ff qs N ed zs cs F A T π cn co cq oq sn) (ha : ∀ a, a ≠ 9 → a ≠ 17 → a ≠ 18 → a ≠ 19 → A' a = A a) (hl : liR 24 c' f' (F' 3) (A' 19)) (h1 : F' 1 = F 1) (h2 : F' 2 = F 2) (h5 : F' 5 = F 5) : rel nc al fl c m nu V cc on op th c' f' ff qs N ed zs cs F' A' T π cn co cq oq sn := by
  obtain ⟨r1, r2, r3, r4, r5, r6⟩ := h
  have e : ∀ a, a ≤ 16 ∨ a = 26 → a ≠ 9 → A' a = A a := fun a q q2 => ha a q2 (by omega) (by omega) (by omega)
  refine ⟨r1.ext h1 (e 0 (by decide) (by decide)) (e 1 (by decide) (by decide)), r2.ext h2 (fun a q1 q2 => e a (by omega) (by omega)), r3.ext (e 0 (by decide) (by decide)) (fun a q1 q2 => e a (by omega) (by omega)), hl, ?_, fun s hs => ?_⟩
  · rw [h5, e 26 (by decide) (by decide)]; exact r5
  · exact (r6 s hs).ext (by rw [e 14 (by decide) (by decide)]) (by rw [e 15 (by decide) (by decide)]) (fun v _ => by rw [e 16 (by decide) (by decide)]) (fun r hr => by rw [e 0 (by decide) (by decide)]; exact r1.2.2.2.1 r hr) (by rw [e 10 (by decide) (by decide)]) (fun i _ => by rw [e 11 (by decide) (by decide), e 12 (by decide) (by decide), e 13 (by decide) (by decide)]; exact ⟨rfl, rfl, rfl⟩) (Nat.le_refl _) (Nat.le_refl _) r1.2.1 (Nat.le_refl _) (fun _ => ⟨rfl, rfl, e 1 (by decide) (by decide), fun _ _ _ _ => rfl⟩)
/-- a form -/
theorem rel.frm {fl' : Nat} {ff' : Nat → Int32} (h : rel nc al fl c m nu V cc on op th ac af ff qs N ed zs cs F A T π cn co cq oq sn) (ha : ∀ a, a < 20 → A' a = A a) (hl : liR 160 fl' ff' (F' 5) (A' 26)) (h1 : F' 1 = F 1) (h2 : F' 2 = F 2) (h3 : F' 3 = F 3) : rel nc al fl' c m nu V cc on op th ac af ff' qs N ed zs cs F' A' T π cn co cq oq sn := by
  obtain ⟨r1, r2, r3, r4, r5, r6⟩ := h
  refine ⟨r1.ext h1 (ha 0 (by decide)) (ha 1 (by decide)), r2.ext h2 (fun a q1 q2 => ha a (by omega)), r3.ext (ha 0 (by decide)) (fun a q1 q2 => ha a (by omega)), ?_, hl, fun s hs => ?_⟩
  · rw [h3, ha 19 (by decide)]; exact r4
  · exact (r6 s hs).ext (by rw [ha 14 (by decide)]) (by rw [ha 15 (by decide)]) (fun v _ => by rw [ha 16 (by decide)]) (fun r hr => by rw [ha 0 (by decide)]; exact r1.2.2.2.1 r hr) (by rw [ha 10 (by decide)]) (fun i _ => by rw [ha 11 (by decide), ha 12 (by decide), ha 13 (by decide)]; exact ⟨rfl, rfl, rfl⟩) (Nat.le_refl _) (Nat.le_refl _) r1.2.1 (Nat.le_refl _) (fun _ => ⟨rfl, rfl, ha 1 (by decide), fun _ _ _ _ => rfl⟩)
end KEEP2
