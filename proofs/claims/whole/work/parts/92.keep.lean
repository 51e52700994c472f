/-! What each call does to both states keeps the relation. -/
theorem so_ext {N N' : nod} {n : Nat} (h1 : nK N' n = nK N n) (h3 : nA N' n = nA N n) (h4 : nB N' n = nB N n) (h5 : nY N' n = nY N n) (h6 : nR N' n = nR N n) (x y : Int32) : so N' n x y = so N n x y := by
  unfold so pf
  rw [h1, h3, h4, h5, h6]
theorem say_ext {N N' : nod} {c : Nat} (hK : ∀ i, i < c → nK N' i = nK N i ∧ nC N' i = nC N i ∧ nA N' i = nA N i ∧ nB N' i = nB N i ∧ nY N' i = nY N i ∧ nR N' i = nR N i) (ho : okT N c) : ∀ n, n < c → ∀ u v, say N' u v n = say N u v n := by
  intro n
  induction n using Nat.strongRecOn with
  | _ n ih =>
    intro hn u v
    obtain ⟨h1, h2, h3, h4, h5, h6⟩ := hK n hn
    by_cases hk : nK N n < 6
    · rw [say_o hk, say_o (by rw [h1]; exact hk), h2, so_ext h1 h3 h4 h5 h6]
    · have hc := (ho n hn).2 hk
      have eL : nL N' n = nL N n := by unfold nL; rw [h3]
      have eQ : nQ N' n = nQ N n := by unfold nQ; rw [h4]
      rw [say_t hk hc, say_t (by rw [h1]; exact hk) (by rw [eL, eQ]; exact hc), eL, eQ, h1, ih _ hc.1 (by omega), ih _ hc.2 (by omega)]
section KEEP
variable {nc al fl c m : Nat} {nu : Nat → Int32} {V : Nat → Nat → Int32} {cc : Nat} {on op th : Nat → Int32} {ac : Nat} {af ff : Nat → Int32} {qs : Nat → qst} {N : nod} {ed : Nat → Nat → Int32} {zs : Nat → Nat} {cs : Nat → Int32}
variable {F F' : Nat → Nat} {A A' : Nat → Nat → Int32} {T : Nat → Bool} {π : Nat → Nat} {cn co : Nat → Nat} {cq oq : Nat → Nat → Nat} {sn : Nat → Nat → Bool}
/-- rows alter: all else stays -/
theorem rel.rows {c' m' : Nat} {nu' : Nat → Int32} {V' : Nat → Nat → Int32} {T' : Nat → Bool} {π' : Nat → Nat} (h : rel nc al fl c m nu V cc on op th ac af ff qs N ed zs cs F A T π cn co cq oq sn) (hr : rwR c' m' nu' V' F' A' T' π') (hm : m ≤ m') (ha : ∀ a, 2 ≤ a → A' a = A a) (h2 : F' 2 = F 2) (h3 : F' 3 = F 3) (h5 : F' 5 = F 5) : rel nc (al + 1) fl c' m' nu' V' cc on op th ac af ff qs N ed zs cs F' A' T' π' cn co cq oq sn := by
  obtain ⟨r1, r2, r3, r4, r5, r6⟩ := h
  refine ⟨hr, r2.ext h2 (fun a q1 q2 => ha a q1), ⟨r3.1.ext hr.2.2.2.1 (by rw [ha 10 (by decide)]) (fun i _ => by rw [ha 11 (by decide), ha 12 (by decide), ha 13 (by decide)]; exact ⟨rfl, rfl, rfl⟩), r3.2⟩, ?_, ?_, fun s hs => ?_⟩
  · rw [h3, ha 19 (by decide)]; exact r4
  · rw [h5, ha 26 (by decide)]; exact r5
  · exact (r6 s hs).ext (by rw [ha 14 (by decide)]) (by rw [ha 15 (by decide)]) (fun v _ => by rw [ha 16 (by decide)]) hr.2.2.2.1 (by rw [ha 10 (by decide)]) (fun i _ => by rw [ha 11 (by decide), ha 12 (by decide), ha 13 (by decide)]; exact ⟨rfl, rfl, rfl⟩) (Nat.le_refl _) hm hr.2.1 (by omega) (fun e => absurd e (by omega))
theorem kp_row {x0 x1 x2 x3 : Int32} (h : rel nc al fl c m nu V cc on op th ac af ff qs N ed zs cs F A T π cn co cq oq sn) (hc : c ≠ 24) (hm : m ≠ 120) : rel nc (al + 1) fl (c + 1) (m + 1) (upd nu c (nI m)) (fun i => if i = c then upd (upd (upd (upd (V c) 0 x0) 1 x1) 2 x2) 3 x3 else V i) cc on op th ac af ff qs N ed zs cs (uF (uF F 0 0) 1 ((F 1) + 1)) (uA (uA (uA (uA (uA A 1 (4 * (F 1)) x0) 1 ((4 * (F 1)) + 1) x1) 1 ((4 * (F 1)) + 2) x2) 1 ((4 * (F 1)) + 3) x3) 0 (F 1) (nI 1)) (fun r => if r = m then true else T r) (fun j => if j = c then m else π j) cn co cq oq sn := by
  obtain ⟨g1, g2, g3, g4, g5, g6⟩ := h.1
  refine h.rows ⟨by rw [uF_s, g1], by omega, by omega, fun r hr => ?_, ?_, fun j hj => ⟨?_, fun l hl => ?_⟩⟩ (by omega) (fun a ha => by rw [uA_a (by omega), uA_a (by omega), uA_a (by omega), uA_a (by omega), uA_a (by omega)]) rfl rfl rfl
  · show upd (A 0) (F 1) (nI 1) r = b2 (if r = m then true else T r)
    rw [g1]
    by_cases e : r = m
    · subst e; rw [pk_us, if_pos rfl]; rfl
    · rw [pk_un e, if_neg e]; exact g4 r hr
  · refine en_push (f := π) (f' := fun j => if j = c then m else π j) (S := fun r => if r = m then true else T r) (en_congr g5 (fun _ _ => rfl) (fun r hr => if_neg (by omega))) (if_pos rfl) (fun i hi => if_neg (by omega)) (if_pos rfl)
  · show upd nu c (nI m) j = nI (if j = c then m else π j)
    by_cases e : j = c
    · subst e; rw [pk_us, if_pos rfl]
    · rw [pk_un e, if_neg e]; exact (g6 j (by omega)).1
  · show _ = upd (upd (upd (upd (A 1) (4 * (F 1)) x0) (4 * (F 1) + 1) x1) (4 * (F 1) + 2) x2) (4 * (F 1) + 3) x3 (4 * (if j = c then m else π j) + l)
    rw [g1]
    by_cases e : j = c
    · subst e
      simp only [if_true]
      obtain rfl | rfl | rfl | rfl : l = 0 ∨ l = 1 ∨ l = 2 ∨ l = 3 := by omega
      · rw [pk_un (by omega), pk_un (by omega), pk_un (by omega), pk_us, pk_un (by omega), pk_un (by omega), pk_un (by omega)]; exact pk_us.symm
      · rw [pk_un (by omega), pk_un (by omega), pk_us, pk_un (by omega), pk_un (by omega), pk_us]
      · rw [pk_un (by omega), pk_us, pk_un (by omega), pk_us]
      · rw [pk_us, pk_us]
    · simp only [if_neg e]
      have := (g5.2.1 j (by omega)).1
      rw [pk_un (by omega), pk_un (by omega), pk_un (by omega), pk_un (by omega)]
      exact (g6 j (by omega)).2 l hl
theorem kp_change {v : Int32} {j l : Nat} (h : rel nc al fl c m nu V cc on op th ac af ff qs N ed zs cs F A T π cn co cq oq sn) (hj : j < c) (hl : l < 4) : rel nc (al + 1) fl c m nu (fun i => if i = j then upd (V j) l v else V i) cc on op th ac af ff qs N ed zs cs (uF F 0 0) (uA A 1 ((4 * (π j)) + l) v) T π cn co cq oq sn := by
  obtain ⟨g1, g2, g3, g4, g5, g6⟩ := h.1
  refine h.rows ⟨g1, g2, g3, g4, g5, fun i hi => ⟨(g6 i hi).1, fun k hk => ?_⟩⟩ (Nat.le_refl _) (fun a ha => by rw [uA_a (by omega)]) rfl rfl rfl
  show _ = upd (A 1) (4 * (π j) + l) v (4 * π i + k)
  by_cases e : i = j
  · subst e
    simp only [if_true]
    by_cases e2 : k = l
    · subst e2; rw [pk_us, pk_us]
    · rw [pk_un e2, pk_un (by omega)]; exact (g6 i hi).2 k hk
  · simp only [if_neg e]
    have : π i ≠ π j := fun q => e (en_inj g5 hi hj q)
    rw [pk_un (by omega)]; exact (g6 i hi).2 k hk
theorem kp_remove {j c' : Nat} {nu' : Nat → Int32} {V' : Nat → Nat → Int32} (h : rel nc al fl c m nu V cc on op th ac af ff qs N ed zs cs F A T π cn co cq oq sn) (hj : j < c) (hc : c = c' + 1) (hs : ∀ i, i < c' → if j ≤ i then nu' i = nu (i + 1) ∧ ∀ l, l < 4 → V' i l = V (i + 1) l else nu' i = nu i ∧ ∀ l, l < 4 → V' i l = V i l) : rel nc (al + 1) fl c' m nu' V' cc on op th ac af ff qs N ed zs cs (uF F 0 0) (uA A 0 (π j) (nI 0)) (fun r => if r = π j then false else T r) (fun i => if j ≤ i then π (i + 1) else π i) cn co cq oq sn := by
  obtain ⟨g1, g2, g3, g4, g5, g6⟩ := h.1
  have hne : ∀ i, i < c → i ≠ j → π i ≠ π j := fun i hi e q => e (en_inj g5 hi hj q)
  refine h.rows ⟨g1, g2, by omega, fun r hr => ?_, ⟨fun a b hab hb => ?_, fun i hi => ?_, fun r hr ht => ?_⟩, fun i hi => ?_⟩ (Nat.le_refl _) (fun a ha => by rw [uA_a (by omega)]) rfl rfl rfl
  · show upd (A 0) (π j) (nI 0) r = b2 (if r = π j then false else T r)
    by_cases e : r = π j
    · rw [e, pk_us, if_pos rfl]; rfl
    · rw [pk_un e, if_neg e]; exact g4 r hr
  · show (if j ≤ a then π (a + 1) else π a) < (if j ≤ b then π (b + 1) else π b)
    split <;> split
    · exact g5.1 _ _ (by omega) (by omega)
    · omega
    · exact g5.1 _ _ (by omega) (by omega)
    · exact g5.1 _ _ (by omega) (by omega)
  · show (if j ≤ i then π (i + 1) else π i) < m ∧ (if (if j ≤ i then π (i + 1) else π i) = π j then false else T (if j ≤ i then π (i + 1) else π i)) = true
    split
    · rw [if_neg (hne (i + 1) (by omega) (by omega))]; exact g5.2.1 _ (by omega)
    · rw [if_neg (hne i (by omega) (by omega))]; exact g5.2.1 _ (by omega)
  · have e : r ≠ π j := fun e => by simp only [if_pos e] at ht; exact absurd ht (by decide)
    simp only [if_neg e] at ht
    obtain ⟨i, hi, rfl⟩ := g5.2.2 r hr ht
    have : i ≠ j := fun q => e (by rw [q])
    by_cases e2 : j ≤ i
    · obtain ⟨i, rfl⟩ : ∃ k, i = k + 1 := ⟨i - 1, by omega⟩
      exact ⟨i, by omega, if_pos (by omega)⟩
    · exact ⟨i, by omega, if_neg e2⟩
  · have := hs i hi
    by_cases e : j ≤ i
    · simp only [if_pos e] at this ⊢
      exact ⟨this.1.trans (g6 _ (by omega)).1, fun l hl => (this.2 l hl).trans ((g6 _ (by omega)).2 l hl)⟩
    · simp only [if_neg e] at this ⊢
      exact ⟨this.1.trans (g6 _ (by omega)).1, fun l hl => (this.2 l hl).trans ((g6 _ (by omega)).2 l hl)⟩
/-- conditions alter -/
theorem rel.cond {cc' : Nat} {on' op' th' : Nat → Int32} {cn' co' : Nat → Nat} (h : rel nc al fl c m nu V cc on op th ac af ff qs N ed zs cs F A T π cn co cq oq sn) (hc : cdR cc' on' op' th' A' T cn' co') (ha : ∀ a, ¬ (10 ≤ a ∧ a ≤ 13) → A' a = A a) (h10 : ∀ s, s < 4 → A' 10 s = A 10 s) (hk : ∀ i, i < 16 → A' 11 i = A 11 i ∧ A' 12 i = A 12 i ∧ A' 13 i = A 13 i) (h1 : F' 1 = F 1) (h2 : F' 2 = F 2) (h3 : F' 3 = F 3) (h5 : F' 5 = F 5) : rel nc al fl c m nu V cc' on' op' th' ac af ff qs N ed zs cs F' A' T π cn' co' cq oq sn := by
  obtain ⟨r1, r2, r3, r4, r5, r6⟩ := h
  refine ⟨r1.ext h1 (ha 0 (by decide)) (ha 1 (by decide)), r2.ext h2 (fun a q1 q2 => ha a (by omega)), hc, ?_, ?_, fun s hs => ?_⟩
  · rw [h3, ha 19 (by decide)]; exact r4
  · rw [h5, ha 26 (by decide)]; exact r5
  · exact (r6 s hs).ext (by rw [ha 14 (by decide)]) (by rw [ha 15 (by decide)]) (fun v _ => by rw [ha 16 (by decide)]) (fun r hr => by rw [ha 0 (by decide)]; exact r1.2.2.2.1 r hr) (h10 s hs) (fun i hi => hk (4 * s + i) (by omega)) (Nat.le_refl _) (Nat.le_refl _) r1.2.1 (Nat.le_refl _) (fun _ => ⟨rfl, rfl, ha 1 (by decide), fun _ _ _ _ => rfl⟩)
theorem kp_cond {l q : Nat} {v : Int32} (h : rel nc al fl c m nu V cc on op th ac af ff qs N ed zs cs F A T π cn co cq oq sn) (hl : l < 4) (hq : q < 6) (hc : cc ≠ 4) : rel nc al fl c m nu V (cc + 1) (upd on cc (nI l)) (upd op cc (nI q)) (upd th cc v) ac af ff qs N ed zs cs (uF F 0 0) (uA (uA (uA (uA A 11 (16 + cc) (nI l)) 12 (16 + cc) (nI q)) 13 (16 + cc) v) 10 4 (nI (cc + 1))) T π (fun i => if i = cc then l else cn i) (fun i => if i = cc then q else co i) cq oq sn := by
  obtain ⟨⟨k1, k2, k3, k4, k5⟩, k6⟩ := h.2.2.1
  refine h.cond ⟨⟨k1, k2, rfl, by omega, fun i hi => ?_⟩, fun i hi => ?_⟩ (fun a ha => by rw [uA_a (by omega), uA_a (by omega), uA_a (by omega), uA_a (by omega)]) (fun s hs => ?_) (fun i hi => ?_) rfl rfl rfl rfl
  · show upd (A 11) (16 + cc) (nI l) (4 * 4 + i) = _ ∧ _ ∧ upd (A 12) (16 + cc) (nI q) (4 * 4 + i) = _ ∧ _ ∧ upd (A 13) (16 + cc) v (4 * 4 + i) = _
    by_cases e : i = cc
    · subst e
      rw [pk_us, pk_us, pk_us, pk_us]
      simp only [if_true]
      exact ⟨trivial, hl, trivial, hq, trivial⟩
    · rw [pk_un (by omega), pk_un (by omega), pk_un (by omega), pk_un e]
      simp only [if_neg e]
      exact k5 i (by omega)
  · by_cases e : i = cc
    · subst e
      rw [pk_us, pk_us]; simp only [if_true]; exact ⟨trivial, trivial⟩
    · rw [pk_un e, pk_un e]; simp only [if_neg e]; exact k6 i (by omega)
  · show upd (A 10) 4 (nI (cc + 1)) s = _
    exact pk_un (by omega)
  · exact ⟨show upd (A 11) (16 + cc) (nI l) i = _ from pk_un (by omega), show upd (A 12) (16 + cc) (nI q) i = _ from pk_un (by omega), show upd (A 13) (16 + cc) v i = _ from pk_un (by omega)⟩
theorem kp_free (h : rel nc al fl c m nu V cc on op th ac af ff qs N ed zs cs F A T π cn co cq oq sn) : rel nc al fl c m nu V 0 on op th ac af ff qs N ed zs cs (uF F 0 0) (uA A 10 4 (nI 0)) T π cn co cq oq sn := by
  refine h.cond ⟨⟨h.2.2.1.1.1, by decide, rfl, by decide, fun i hi => absurd hi (Nat.not_lt_zero _)⟩, fun i hi => absurd hi (Nat.not_lt_zero _)⟩ (fun a ha => uA_a (by omega)) (fun s hs => ?_) (fun i hi => ⟨rfl, rfl, rfl⟩) rfl rfl rfl rfl
  show upd (A 10) 4 (nI 0) s = _
  exact pk_un (by omega)
/-- nodes alter -/
theorem rel.nods {nc' al' : Nat} {N' : nod} {ed' : Nat → Nat → Int32} {zs' : Nat → Nat} {cs' : Nat → Int32} (h : rel nc al fl c m nu V cc on op th ac af ff qs N ed zs cs F A T π cn co cq oq sn) (hn : ndR nc' N' ed' zs' cs' F' A') (hnc : nc ≤ nc') (hal : al ≤ al') (hU : al' = al → ∀ i, i < nc → ∀ u v, say N' u v i = say N u v i) (ha : ∀ a, ¬ (2 ≤ a ∧ a ≤ 8) → A' a = A a) (h1 : F' 1 = F 1) (h3 : F' 3 = F 3) (h5 : F' 5 = F 5) : rel nc' al' fl c m nu V cc on op th ac af ff qs N' ed' zs' cs' F' A' T π cn co cq oq sn := by
  obtain ⟨r1, r2, r3, r4, r5, r6⟩ := h
  refine ⟨r1.ext h1 (ha 0 (by decide)) (ha 1 (by decide)), hn, r3.ext (ha 0 (by decide)) (fun a q1 q2 => ha a (by omega)), ?_, ?_, fun s hs => ?_⟩
  · rw [h3, ha 19 (by decide)]; exact r4
  · rw [h5, ha 26 (by decide)]; exact r5
  · exact (r6 s hs).ext (by rw [ha 14 (by decide)]) (by rw [ha 15 (by decide)]) (fun v _ => by rw [ha 16 (by decide)]) (fun r hr => by rw [ha 0 (by decide)]; exact r1.2.2.2.1 r hr) (by rw [ha 10 (by decide)]) (fun i _ => by rw [ha 11 (by decide), ha 12 (by decide), ha 13 (by decide)]; exact ⟨rfl, rfl, rfl⟩) hnc (Nat.le_refl _) r1.2.1 hal (fun e => ⟨rfl, rfl, ha 1 (by decide), hU e⟩)
theorem kp_layer {i v : Nat} {l : Int32} (h : rel nc al fl c m nu V cc on op th ac af ff qs N ed zs cs F A T π cn co cq oq sn) (hi : i < nc) (hv : v < 10) (hk : nK N i = 4) (l1 : -1 ≤ l) (l2 : l ≤ nI 5) : rel nc (al + 1) fl c m nu V cc on op th ac af ff qs (nYs N i (upd (nY N i) v l)) ed zs cs (uF F 0 0) (uA A 7 ((10 * i) + v) l) T π cn co cq oq sn := by
  obtain ⟨g1, g2, ⟨g3, g4, g5, g6⟩, g7, g8, g9⟩ := h.2.1
  refine h.nods ⟨g1, g2, ⟨fun j hj => ?_, g4, fun j hj kj w hw => ?_, g6⟩, g7, g8, g9⟩ (Nat.le_refl _) (by omega) (fun e => absurd e (by omega)) (fun a ha => uA_a (by omega)) rfl rfl rfl
  · obtain ⟨n1, n2, n3, n4, n5, n6, n7, n8, n9⟩ := g3 j hj
    refine ⟨n1, n2, n3, n4, n5, n6, n7, fun kj w hw => ?_, n9⟩
    show upd (A 7) (10 * i + v) l (10 * j + w) = u1 (nY N) i (upd (nY N i) v l) j w
    by_cases e : j = i
    · subst e
      rw [u1_s]
      by_cases e2 : w = v
      · subst e2; rw [pk_us, pk_us]
      · rw [pk_un e2, pk_un (by omega)]; exact n8 kj w hw
    · rw [u1_n e, pk_un (by omega)]; exact n8 kj w hw
  · show -1 ≤ u1 (nY N) i (upd (nY N i) v l) j w ∧ u1 (nY N) i (upd (nY N i) v l) j w ≤ nI 5
    by_cases e : j = i
    · subst e
      rw [u1_s]
      by_cases e2 : w = v
      · subst e2; rw [pk_us]; exact ⟨l1, l2⟩
      · rw [pk_un e2]; exact g5 j hj kj w hw
    · rw [u1_n e]; exact g5 j hj kj w hw
theorem okR_cg {f g : Nat → Int32} (h : ∀ x, x < 10 → g x = f x) (ho : okR f) : okR g :=
  ⟨fun x hx => by rw [h x hx]; exact ho.1 x hx, fun x y z hx hy hz h1 h2 => by rw [h x hx] at h1 ⊢; rw [h y hy] at h2; exact ho.2 x y z hx hy hz h1 h2⟩
theorem okG_cg {e r r' : Nat → Int32} (h : ∀ x, x < 10 → r' x = r x) (ho : okG e r) : okG e r' :=
  ⟨okR_cg h ho.1, fun x y hx hy q => by rw [h x hx]; exact ho.2.1 x y hx hy q, fun x y hx hy q => by rw [h x hx] at q ⊢; exact ho.2.2 x y hx hy q⟩
theorem kp_edge {i b w : Nat} {r' : Nat → Int32} (h : rel nc al fl c m nu V cc on op th ac af ff qs N ed zs cs F A T π cn co cq oq sn) (hi : i < nc) (hb : b < 10) (hw : w < 10) (hk : nK N i = 5) (hne : b ≠ w) (hno : bt (nR N i w) b = false) (hr : ∀ z, z < 10 → r' z = rJ (nR N i) b w z) : rel nc (al + 1) fl c m nu V cc on op th ac af ff qs (nRs N i r') (u1 ed i (eJ (ed i) b w)) zs cs (uF F 0 0) (uA A 8 ((10 * i) + b) ((A 8 ((10 * i) + b)) ||| ((nI 1) <<< ((nI w) &&& 31)))) T π cn co cq oq sn := by
  obtain ⟨g1, g2, ⟨g3, g4, g5, g6⟩, g7, g8, g9⟩ := h.2.1
  have hG : okG (eJ (ed i) b w) r' := okG_cg hr (okG_join (g4 i hi hk) hb hw hne hno)
  refine h.nods ⟨g1, g2, ⟨fun j hj => ?_, fun j hj kj => ?_, g5, g6⟩, ⟨fun j hj => ?_, g7.2⟩, g8, g9⟩ (Nat.le_refl _) (by omega) (fun e => absurd e (by omega)) (fun a ha => uA_a (by omega)) rfl rfl rfl
  · obtain ⟨n1, n2, n3, n4, n5, n6, n7, n8, n9⟩ := g3 j hj
    refine ⟨n1, n2, n3, n4, n5, n6, n7, n8, fun kj v hv => ?_⟩
    show upd (A 8) (10 * i + b) (A 8 (10 * i + b) ||| nI 1 <<< (nI w &&& 31)) (10 * j + v) = u1 ed i (eJ (ed i) b w) j v
    by_cases e : j = i
    · subst e
      rw [u1_s]
      unfold eJ
      by_cases e2 : v = b
      · subst e2; rw [pk_us, pk_us, n9 kj v hv]
      · rw [pk_un e2, pk_un (by omega)]; exact n9 kj v hv
    · rw [u1_n e, pk_un (by omega)]; exact n9 kj v hv
  · show okG (u1 ed i (eJ (ed i) b w) j) (u1 (nR N) i r' j)
    by_cases e : j = i
    · subst e; rw [u1_s, u1_s]; exact hG
    · rw [u1_n e, u1_n e]; exact g4 j hj kj
  · show okR (u1 (nR N) i r' j)
    by_cases e : j = i
    · subst e; rw [u1_s]; exact hG.1
    · rw [u1_n e]; exact g7.1 j hj
end KEEP
