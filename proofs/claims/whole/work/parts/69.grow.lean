/-! The class's nodes: changed, and one more. -/
def u1 {α : Type} (f : Nat → α) (i : Nat) (x : α) : Nat → α := fun j => if j = i then x else f j
theorem u1_s {α : Type} {f : Nat → α} {i : Nat} {x : α} : u1 f i x i = x := if_pos rfl
theorem u1_n {α : Type} {f : Nat → α} {i j : Nat} {x : α} (h : j ≠ i) : u1 f i x j = f j := if_neg h
/-- layers of a node changed; its reach changed -/
def nYs (N : nod) (i : Nat) (f : Nat → Int32) : nod := (N.1, N.2.1, N.2.2.1, N.2.2.2.1, u1 N.2.2.2.2.1 i f, N.2.2.2.2.2)
def nRs (N : nod) (i : Nat) (f : Nat → Int32) : nod := (N.1, N.2.1, N.2.2.1, N.2.2.2.1, N.2.2.2.2.1, u1 N.2.2.2.2.2 i f)
/-- one more node -/
def nX (N : nod) (i kd cl : Nat) (a b : Int32) (f g : Nat → Int32) : nod := (u1 N.1 i kd, u1 N.2.1 i cl, u1 N.2.2.1 i a, u1 N.2.2.2.1 i b, u1 N.2.2.2.2.1 i f, u1 N.2.2.2.2.2 i g)
section GROW
variable {E : ev_E} {X sz : Nat} {nc al fl c m cc ac : Nat} {nu on op th af ff : Nat → Int32} {V : Nat → Nat → Int32} {qs : Nat → qst} {N N' : nod} {ed ed' : Nat → Nat → Int32} {zs zs' : Nat → Nat} {cs cs' : Nat → Int32} {ad ad' : Nat → Nat} {h h' : ev_h}
theorem NdAt.ext {i : Nat} (hN : NdAt E N ed zs cs ad i h) (h1 : nK N' i = nK N i) (h2 : nC N' i = nC N i) (h3 : nA N' i = nA N i) (h4 : nB N' i = nB N i) (h5 : nK N i = 4 → nY N' i = nY N i) (h6 : nK N i = 5 → nR N' i = nR N i ∧ ed' i = ed i) (h7 : zs' i = zs i) (h8 : cs' i = cs i) (h9 : ∀ j, j ≤ i → ad' j = ad j) : NdAt E N' ed' zs' cs' ad' i h := by
  have hL : nL N' i = nL N i := by unfold nL; rw [h3]
  have hQ : nQ N' i = nQ N i := by unfold nQ; rw [h4]
  unfold NdAt
  rw [h1, h2, h3, h4, h7, h8, hL, hQ, h9 i (Nat.le_refl _)]
  rcases hN with ⟨hk, hc, ho⟩ | ⟨hk, hc, ho, hy⟩ | ⟨hk, hc, ho, he, hr⟩ | ⟨k6, k9, hl, hq', ho⟩
  · exact Or.inl ⟨hk, hc, ho⟩
  · rw [h5 hk]; exact Or.inr (Or.inl ⟨hk, hc, ho, hy⟩)
  · rw [(h6 hk).1, (h6 hk).2]; exact Or.inr (Or.inr (Or.inl ⟨hk, hc, ho, he, hr⟩))
  · rw [h9 _ (by omega), h9 _ (by omega)]; exact Or.inr (Or.inr (Or.inr ⟨k6, k9, hl, hq', ho⟩))
/-- nodes changed in place -/
theorem PtAt.nds (hP : PtAt E X nc al fl c m nu V cc on op th ac af ff qs N ed zs cs ad h) (h1 : ∀ q, X ≤ q → q < X + 78 → h' q = h q) (hn : ∀ i, i < nc → NdAt E N' ed' zs' cs' ad i h') : PtAt E X nc al fl c m nu V cc on op th ac af ff qs N' ed' zs' cs' ad h' := by
  obtain ⟨p1, p2, ⟨nf, p3, p4⟩, p5, ⟨pm, be, le, p6⟩, p7, ⟨f, p8⟩, ⟨qf, p9, p10⟩, p11, p12, p13⟩ := hP
  exact ⟨(h1 X (by omega) (by omega)).trans p1, p2.kept (fun q a b => h1 q (by omega) (by omega)), ⟨nf, (h1 _ (by omega) (by omega)).trans p3, p4⟩, p5.kept (fun q a b => h1 q (by omega) (by omega)), ⟨pm, be, le, p6.kept (fun q a b => h1 q (by omega) (by omega))⟩, p7.kept (fun q a b => h1 q (by omega) (by omega)), ⟨f, p8.kept (fun q a b => h1 q (by omega) (by omega))⟩, ⟨qf, (h1 _ (by omega) (by omega)).trans p9, p10⟩, (h1 _ (by omega) (by omega)).trans p11, fun s hs => QnAt.kept (p12 s hs) (fun q a b => h1 q (by omega) (by omega)), fun i hi => ⟨hn i hi, (p13 i hi).2⟩⟩
/-- layers of node i changed -/
theorem PtAt.lay {i : Nat} {f : Nat → Int32} (hP : PtAt E X nc al fl c m nu V cc on op th ac af ff qs N ed zs cs ad h) (hs : nsp X N ad nc sz) (hi : i < nc) (hk : nK N i = 4) : PtAt E X nc al fl c m nu V cc on op th ac af ff qs (nYs N i f) ed zs cs ad (ev_up h (ad i + 1) (iA E 10 f)) := by
  have hX := (hs.2.1 i hi).1
  refine hP.nds (fun q a b => ev_up_n (by omega)) (fun j hj => ?_)
  have hNj := (hP.2.2.2.2.2.2.2.2.2.2 j hj).1
  have hw : wd N i = 2 := by unfold wd; rw [if_pos hk]
  by_cases e : j = i
  · subst e
    rcases hNj with ⟨k, -⟩ | ⟨-, hc, ho, hy⟩ | ⟨k, -⟩ | ⟨k, -⟩
    · omega
    · refine Or.inr (Or.inl ⟨hk, hc, (ev_up_n (by omega)).trans ho, ?_⟩)
      show ev_up _ _ _ _ = some (iA E 10 (u1 N.2.2.2.2.1 j f j))
      rw [u1_s, ev_up_s]
    · omega
    · omega
  · refine (hNj.keptW (h' := ev_up h (ad i + 1) (iA E 10 f)) (fun z a b => ev_up_n (fun q => ?_))).ext rfl rfl rfl rfl (fun _ => u1_n e) (fun _ => ⟨rfl, rfl⟩) rfl rfl (fun _ _ => rfl)
    rcases Nat.lt_or_gt_of_ne e with g | g
    · have := hs.2.2 j i g hi; omega
    · have := hs.2.2 i j g hj; omega
/-- an edge of node i -/
theorem PtAt.edg {i : Nat} {f g : Nat → Int32} (hP : PtAt E X nc al fl c m nu V cc on op th ac af ff qs N ed zs cs ad h) (hs : nsp X N ad nc sz) (hi : i < nc) (hk : nK N i = 5) : PtAt E X nc al fl c m nu V cc on op th ac af ff qs (nRs N i g) (u1 ed i f) zs cs ad (ev_up (ev_up h (ad i + 1) (iA E 10 f)) (ad i + 2) (iA E 10 g)) := by
  have hX := (hs.2.1 i hi).1
  refine hP.nds (fun q a b => (ev_up_n (by omega)).trans (ev_up_n (by omega))) (fun j hj => ?_)
  have hNj := (hP.2.2.2.2.2.2.2.2.2.2 j hj).1
  have hw : wd N i = 3 := by unfold wd; rw [if_neg (by omega), if_pos hk]
  by_cases e : j = i
  · subst e
    rcases hNj with ⟨k, -⟩ | ⟨k, -⟩ | ⟨-, hc, ho, hy, hr⟩ | ⟨k, -⟩
    · omega
    · omega
    · refine Or.inr (Or.inr (Or.inl ⟨hk, hc, (ev_up_n (by omega)).trans ((ev_up_n (by omega)).trans ho), ?_, ?_⟩))
      · rw [u1_s]; exact (ev_up_n (by omega)).trans ev_up_s
      · show ev_up _ _ _ _ = some (iA E 10 (u1 N.2.2.2.2.2 j g j))
        rw [u1_s, ev_up_s]
    · omega
  · refine (hNj.keptW (h' := ev_up (ev_up h (ad i + 1) (iA E 10 f)) (ad i + 2) (iA E 10 g)) (fun z a b => ?_)).ext rfl rfl rfl rfl (fun _ => rfl) (fun _ => ⟨u1_n e, u1_n e⟩) rfl rfl (fun _ _ => rfl)
    rcases Nat.lt_or_gt_of_ne e with g' | g'
    · have := hs.2.2 j i g' hi
      exact (ev_up_n (by omega)).trans (ev_up_n (by omega))
    · have := hs.2.2 i j g' hj
      exact (ev_up_n (by omega)).trans (ev_up_n (by omega))
theorem wd_X {kd cl : Nat} {a b : Int32} {f g : Nat → Int32} {i j : Nat} : wd (nX N i kd cl a b f g) j = if j = i then (if kd = 4 then 2 else if kd = 5 then 3 else 1) else wd N j := by
  unfold wd
  show (if u1 N.1 i kd j = 4 then 2 else if u1 N.1 i kd j = 5 then 3 else 1) = _
  by_cases e : j = i
  · subst e; rw [u1_s, if_pos rfl]
  · rw [u1_n e, if_neg e]
/-- one more node, made at sz -/
theorem PtAt.add {kd cl z0 : Nat} {a b c0 : Int32} {f g : Nat → Int32} {sz' : Nat} {h1 : ev_h} (hP : PtAt E X nc al fl c m nu V cc on op th ac af ff qs N ed zs cs ad h) (hs : nsp X N ad nc sz) (hq : ∀ s, s < 4 → (qs s).1 ≤ nc) (hf : ∀ q, q < sz → h1 q = h q) (hz : sz' = sz + (if kd = 4 then 2 else if kd = 5 then 3 else 1))
    (hn : ∀ h', (∀ q, X + 108 ≤ q → h' q = h1 q) → NdAt E (nX N nc kd cl a b f g) (u1 ed nc (fun _ => nI 0)) (u1 zs nc z0) (u1 cs nc c0) (u1 ad nc sz) nc h') {nf : Nat → Option Nat} (h28 : h (X + 28) = some (rA E 3 24 nf)) (hnf : ∀ i, i < nc → nf i = some (ad i)) :
    PtAt E X (nc + 1) al fl c m nu V cc on op th ac af ff qs (nX N nc kd cl a b f g) (u1 ed nc (fun _ => nI 0)) (u1 zs nc z0) (u1 cs nc c0) (u1 ad nc sz) (ev_up (ev_up h1 (X + 28) (rA E 3 24 (va_up nf nc (some sz)))) X (PtO X (nc + 1) al fl)) ∧ nsp X (nX N nc kd cl a b f g) (u1 ad nc sz) (nc + 1) sz' := by
  have hsz := hs.1
  have hfr : ∀ q, X + 1 ≤ q → q < sz → q ≠ X + 28 → ev_up (ev_up h1 (X + 28) (rA E 3 24 (va_up nf nc (some sz)))) X (PtO X (nc + 1) al fl) q = h q := fun q a b d => (ev_up_n (by omega)).trans ((ev_up_n d).trans (hf q b))
  have hfn : ∀ q, X + 108 ≤ q → ev_up (ev_up h1 (X + 28) (rA E 3 24 (va_up nf nc (some sz)))) X (PtO X (nc + 1) al fl) q = h1 q := fun q a => (ev_up_n (by omega)).trans (ev_up_n (by omega))
  have h28' : ev_up (ev_up h1 (X + 28) (rA E 3 24 (va_up nf nc (some sz)))) X (PtO X (nc + 1) al fl) (X + 28) = some (rA E 3 24 (va_up nf nc (some sz))) := (ev_up_n (by omega)).trans ev_up_s
  have h0' : ev_up (ev_up h1 (X + 28) (rA E 3 24 (va_up nf nc (some sz)))) X (PtO X (nc + 1) al fl) X = some (PtO X (nc + 1) al fl) := ev_up_s
  generalize ev_up (ev_up h1 (X + 28) (rA E 3 24 (va_up nf nc (some sz)))) X (PtO X (nc + 1) al fl) = H at hfr hfn h28' h0' ⊢
  obtain ⟨p1, p2, -, p5, ⟨pm, be, le, p6⟩, p7, ⟨f8, p8⟩, ⟨qf, p9, p10⟩, p11, p12, p13⟩ := hP
  refine ⟨⟨h0', p2.kept (fun q a b => hfr q (by omega) (by omega) (by omega)), ⟨_, h28', fun i hi => ?_⟩, p5.kept (fun q a b => hfr q (by omega) (by omega) (by omega)), ⟨pm, be, le, p6.kept (fun q a b => hfr q (by omega) (by omega) (by omega))⟩, p7.kept (fun q a b => hfr q (by omega) (by omega) (by omega)), ⟨f8, p8.kept (fun q a b => hfr q (by omega) (by omega) (by omega))⟩, ⟨qf, (hfr _ (by omega) (by omega) (by omega)).trans p9, p10⟩, (hfr _ (by omega) (by omega) (by omega)).trans p11, fun s hs' => ?_, fun i hi => ?_⟩, ⟨by omega, fun i hi => ?_, fun i j hij hj => ?_⟩⟩
  · by_cases e : i = nc
    · subst e
      rw [u1_s]
      simp [va_up]
    · rw [u1_n e, ← hnf i (by omega)]
      simp [va_up, e]
  · have h9 := QnAt.kept (h' := H) (p12 s hs') (fun q a b => hfr q (by omega) (by omega) (by omega))
    have e : qnv (u1 ad nc sz) (qs s).1 = qnv ad (qs s).1 := by
      have := hq s hs'
      cases hqq : (qs s).1 with
      | zero => rfl
      | succ i =>
        rw [hqq] at this
        show Value.ref (u1 ad nc sz i) = Value.ref (ad i)
        rw [u1_n (by omega)]
    unfold QsAt
    rw [e]
    exact h9
  · by_cases e : i = nc
    · subst e
      exact ⟨hn H hfn, by rw [u1_s]; exact hsz⟩
    · have hi' : i < nc := by omega
      refine ⟨((p13 i hi').1.keptW (fun z a b => ?_)).ext (u1_n e) (u1_n e) (u1_n e) (u1_n e) (fun _ => u1_n e) (fun _ => ⟨u1_n e, u1_n e⟩) (u1_n e) (u1_n e) (fun j hj => u1_n (by omega)), by rw [u1_n e]; exact (p13 i hi').2⟩
      have h1 := (hs.2.1 i hi')
      exact hfr z (by omega) (by omega) (by omega)
  · rw [wd_X]
    by_cases e : i = nc
    · subst e
      rw [u1_s, if_pos rfl]
      omega
    · rw [u1_n e, if_neg e]
      have := hs.2.1 i (by omega)
      omega
  · rw [wd_X, if_neg (by omega), u1_n (by omega)]
    by_cases e : j = nc
    · subst e
      rw [u1_s]
      exact (hs.2.1 i (by omega)).2
    · rw [u1_n e]
      exact hs.2.2 i j hij (by omega)
end GROW
