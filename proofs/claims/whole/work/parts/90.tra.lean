/-! Places against row numbers: what is counted, listed, best, levelled over places is so over the rows that are there. -/
/-- rows that agree on the four columns -/
def c4 (u v : Nat → Int32) : Prop := ∀ l, l < 4 → u l = v l
/-- what comparing wants of the nodes -/
def okT (N : nod) (c : Nat) : Prop := ∀ n, n < c → (nK N n < 6 → nC N n < 4) ∧ (¬ nK N n < 6 → nL N n < n ∧ nQ N n < n)
theorem say_cg {N : nod} {c : Nat} {u u' v v' : Nat → Int32} (ho : okT N c) (hu : c4 u u') (hv : c4 v v') : ∀ n, n < c → say N u v n = say N u' v' n := by
  intro n
  induction n using Nat.strongRecOn with
  | _ n ih =>
    intro hn
    by_cases hk : nK N n < 6
    · rw [say_o hk, say_o hk, hu _ ((ho n hn).1 hk), hv _ ((ho n hn).1 hk)]
    · have hc := (ho n hn).2 hk
      rw [say_t hk hc, say_t hk hc, ih _ hc.1 (by omega), ih _ hc.2 (by omega)]
theorem wk_cg {N : nod} {c : Nat} (ho : okT N c) : ∀ f (u u' v v' : Nat → Int32), c4 u u' → c4 v v' → ∀ n, n < c → wk N f u v n = wk N f u' v' n := by
  intro f
  induction f with
  | zero => intro u u' v v' _ _ n _; rfl
  | succ f ih =>
    intro u u' v v' hu hv n hn
    by_cases hk : nK N n < 6
    · rw [wk_o hk, wk_o hk]
    · have hc := (ho n hn).2 hk
      have e : nx N u v n = nx N u' v' n := by unfold nx; rw [say_cg ho hu hv _ (show nL N n < c by omega)]
      have hl : nx N u' v' n < c := by have := nx_lt (U := u') (V := v') hc.1 hc.2; omega
      have e2 : wk N f (if nK N n = 9 then v else u) (if nK N n = 9 then u else v) (nx N u v n) = wk N f (if nK N n = 9 then v' else u') (if nK N n = 9 then u' else v') (nx N u' v' n) := by
        rw [e]
        refine ih _ _ _ _ ?_ ?_ _ hl
        · split <;> assumption
        · split <;> assumption
      rw [wk_t hk, wk_t hk, e2]
section TRA
variable {c c' m : Nat} {π π' : Nat → Nat} {T U S : Nat → Bool}
theorem en_lt (h : en c π T m) {i j : Nat} (hi : i < c) (hj : j < c) : π i < π j ↔ i < j := by
  refine ⟨fun q => ?_, fun q => h.1 i j q hj⟩
  by_cases e : i < j
  · exact e
  · by_cases e2 : i = j
    · subst e2; exact absurd q (Nat.lt_irrefl _)
    · have := h.1 j i (by omega) hi; omega
theorem cnt_en (h : en c π T m) (W : Nat → Bool) : ∀ k, k ≤ m → cnt (fun v => T v && W v) k = cnt (fun q => W (π q)) (cnt T k) := by
  intro k
  induction k with
  | zero => intro _; rfl
  | succ k ih =>
    intro hk
    rw [cnt_step, cnt_step T]
    by_cases e : T k = true
    · obtain ⟨i, hi, rfl⟩ := h.2.2 k (by omega) e
      rw [ih (by omega), en_cnt h i hi]
      simp only [e, Bool.true_and, if_true]
      rw [cnt_step]
    · rw [ih (by omega)]; simp [e]
theorem cnt_enT (h : en c π T m) (W : Nat → Bool) : cnt (fun v => T v && W v) m = cnt (fun q => W (π q)) c := by
  rw [cnt_en h W m (Nat.le_refl _), en_total h]
theorem cnt_enI (h : en c π T m) (W : Nat → Bool) {j : Nat} (hj : j < c) : cnt (fun v => T v && W v) (π j) = cnt (fun q => W (π q)) j := by
  rw [cnt_en h W _ (Nat.le_of_lt (h.2.1 j hj).1), en_cnt h j hj]
theorem pk_tr {S1 W : Nat → Bool} {f : Nat → Int32} {z r : Int32} (h : en c π T m) (hf : ∀ j, j < c → f j = nI (π j)) (hS : ∀ j, j < c → S1 j = W (π j)) (hp : pkR c S1 f z r) : pkR m (fun v => T v && W v) (fun v => nI v) z r := by
  have hc : ∀ j, j ≤ c → cnt S1 j = cnt (fun q => W (π q)) j := fun j hj => cnt_congr j (fun i hi => hS i (by omega))
  rcases hp with ⟨q, hq, hs, hz, hr⟩ | ⟨hn, hr⟩
  · refine Or.inl ⟨π q, (h.2.1 q hq).1, ?_, ?_, hr.trans (hf q hq)⟩
    · show (T (π q) && W (π q)) = true
      rw [(h.2.1 q hq).2, ← hS q hq, hs]; rfl
    · rw [cnt_enI h W hq, ← hc q (by omega)]; exact hz
  · refine Or.inr ⟨fun q hq hs => ?_, ?_⟩
    · have hs' : (T q && W q) = true := hs
      obtain ⟨t1, t2⟩ := (Bool.and_eq_true _ _).mp hs'
      obtain ⟨i, hi, rfl⟩ := h.2.2 q hq t1
      rw [cnt_enI h W hi, ← hc i (by omega)]
      exact hn i hi (by rw [hS i hi]; exact t2)
    · rw [cnt_enT h W, ← hc c (by omega)]; exact hr
theorem pk_cg {S' : Nat → Bool} {f : Nat → Int32} {z r : Int32} (hS : ∀ v, v < m → S v = S' v) (hp : pkR m S f z r) : pkR m S' f z r := by
  have hc : ∀ j, j ≤ m → cnt S j = cnt S' j := fun j hj => cnt_congr j (fun i hi => hS i (by omega))
  rcases hp with ⟨q, hq, hs, hz, hr⟩ | ⟨hn, hr⟩
  · exact Or.inl ⟨q, hq, (hS q hq) ▸ hs, by rw [← hc q (by omega)]; exact hz, hr⟩
  · exact Or.inr ⟨fun q hq hs => by rw [← hc q (by omega)]; exact hn q hq ((hS q hq).trans hs), by rw [← hc m (by omega)]; exact hr⟩
theorem pk_uq {f : Nat → Int32} {z r r' : Int32} (hm : m < 65536) (h1 : pkR m S f z r) (h2 : pkR m S f z r') : r = r' := by
  rcases h1 with ⟨q, hq, hs, hz, hr⟩ | ⟨hn, hr⟩ <;> rcases h2 with ⟨q', hq', hs', hz', hr'⟩ | ⟨hn', hr'⟩
  · have e : cnt S q = cnt S q' := (nI_eq (by have := cnt_le S q; omega) (by have := cnt_le S q'; omega)).mp (hz.symm.trans hz')
    have e2 : q = q' := by
      rcases Nat.lt_trichotomy q q' with g | g | g
      · have := cnt_in g hs; omega
      · exact g
      · have := cnt_in g hs'; omega
    subst e2; rw [hr, hr']
  · exact absurd hz (hn' q hq hs)
  · exact absurd hz' (hn q' hq' hs')
  · rw [hr, hr']
theorem ub_tr {ps P : Nat → Bool} {B B' : Nat → Nat → Bool} (h : en c π T m) (hps : ∀ j, j < c → ps j = P (π j)) (hP : ∀ r, r < m → P r = true → T r = true) (hB : ∀ y j, y < c → j < c → B y j = B' (π y) (π j)) : ∀ j, j < c → ub c ps B j = ub m P B' (π j) := by
  intro j hj
  unfold ub
  rw [hps j hj]
  refine congrArg _ (decide_eq_decide.mpr ⟨fun g r hr pr => ?_, fun g y hy py => ?_⟩)
  · obtain ⟨y, hy, rfl⟩ := h.2.2 r hr (hP r hr pr)
    rw [← hB y j hy hj]
    exact g y hy ((hps y hy).trans pr)
  · rw [hB y j hy hj]
    exact g (π y) (h.2.1 y hy).1 ((hps y hy) ▸ py)
theorem en_tr (h : en c π T m) (h' : en c' π' S c) (hS : ∀ j, j < c → S j = U (π j)) (hU : ∀ r, r < m → U r = true → T r = true) : en c' (fun j => π (π' j)) U m := by
  refine ⟨fun i j hij hj => h.1 _ _ (h'.1 i j hij hj) (h'.2.1 j hj).1, fun i hi => ⟨(h.2.1 _ (h'.2.1 i hi).1).1, ?_⟩, fun r hr hu => ?_⟩
  · rw [← hS _ (h'.2.1 i hi).1]; exact (h'.2.1 i hi).2
  · obtain ⟨j, hj, rfl⟩ := h.2.2 r hr (hU r hr hu)
    obtain ⟨i, hi, rfl⟩ := h'.2.2 j hj ((hS j hj).trans hu)
    exact ⟨i, hi, rfl⟩
theorem lz_tr {ps P : Nat → Bool} {B B' : Nat → Nat → Bool} (h : en c π T m) (hps : ∀ j, j < c → ps j = P (π j)) (hP : ∀ r, r < m → P r = true → T r = true) (hB : ∀ y j, y < c → j < c → B y j = B' (π y) (π j)) (o1 : okB ps B c) (o2 : okB P B' m) {j : Nat} (hj : j < c) (pj : ps j = true) : lz ps B c j = lz P B' m (π j) := by
  apply Nat.le_antisymm
  · refine lz_low o1 (f := fun j => lz P B' m (π j)) (fun v hv pv => lz_pos o2 (h.2.1 v hv).1 ((hps v hv) ▸ pv)) (fun u v hu hv pu pv hb => ?_) j hj pj
    exact lz_lt o2 (h.2.1 u hu).1 (h.2.1 v hv).1 ((hps u hu) ▸ pu) ((hps v hv) ▸ pv) ((hB u v hu hv) ▸ hb)
  · have key := lz_low o2 (f := fun r => lz ps B c (cnt T r)) (fun r hr pr => ?_) (fun r s hr hs pr qs hb => ?_) (π j) (h.2.1 j hj).1 ((hps j hj) ▸ pj)
    · have e : cnt T (π j) = j := en_cnt h j hj
      rw [e] at key; exact key
    · obtain ⟨y, hy, rfl⟩ := h.2.2 r hr (hP r hr pr)
      show 1 ≤ lz ps B c (cnt T (π y))
      rw [en_cnt h y hy]
      exact lz_pos o1 hy ((hps y hy).trans pr)
    · obtain ⟨y, hy, rfl⟩ := h.2.2 r hr (hP r hr pr)
      obtain ⟨w, hw, rfl⟩ := h.2.2 s hs (hP s hs qs)
      show lz ps B c (cnt T (π y)) < lz ps B c (cnt T (π w))
      rw [en_cnt h y hy, en_cnt h w hw]
      exact lz_lt o1 hy hw ((hps y hy).trans pr) ((hps w hw).trans qs) ((hB y w hy hw).trans hb)
theorem rk_tr {lv lv' : Nat → Nat} (h : en c π T m) (hl : ∀ j, j < c → lv j = lv' (π j)) (hT : ∀ r, r < m → 1 ≤ lv' r → T r = true) (l i i' : Nat) (hi : ∀ u, u < c → (u < i ↔ π u < i')) : rk lv c l i = rk lv' m l i' := by
  unfold rk
  have e1 : cnt (fun u => decide (1 ≤ lv' u ∧ (lv' u < l ∨ (lv' u = l ∧ u < i')))) m = cnt (fun u => T u && decide (1 ≤ lv' u ∧ (lv' u < l ∨ (lv' u = l ∧ u < i')))) m := cnt_congr m (fun r hr => by
    by_cases e : 1 ≤ lv' r
    · rw [hT r hr e]; rfl
    · have : decide (1 ≤ lv' r ∧ (lv' r < l ∨ (lv' r = l ∧ r < i'))) = false := decide_eq_false (fun q => e q.1)
      rw [this, Bool.and_false])
  rw [e1, cnt_enT h]
  refine cnt_congr c (fun u hu => decide_eq_decide.mpr ?_)
  rw [hl u hu, hi u hu]
theorem rk_inj {lv : Nat → Nat} {a b : Nat} (ha : a < c) (hb : b < c) (la : 1 ≤ lv a) (lb : 1 ≤ lv b) (e : rk lv c (lv a) a = rk lv c (lv b) b) : a = b := by
  have key : ∀ a b, a < c → b < c → 1 ≤ lv a → (lv a < lv b ∨ (lv a = lv b ∧ a < b)) → rk lv c (lv a) a < rk lv c (lv b) b := fun a b ha hb la hab => by
    refine cnt_lt c (fun u hu q => ?_) a ha (decide_eq_true ⟨la, hab⟩) (decide_eq_false (fun q => by omega))
    have := of_decide_eq_true q
    exact decide_eq_true ⟨this.1, by omega⟩
  rcases Nat.lt_trichotomy (lv a) (lv b) with g | g | g
  · have := key a b ha hb la (Or.inl g); omega
  · rcases Nat.lt_trichotomy a b with g2 | g2 | g2
    · have := key a b ha hb la (Or.inr ⟨g, g2⟩); omega
    · exact g2
    · have := key b a hb ha lb (Or.inr ⟨g.symm, g2⟩); omega
  · have := key b a hb ha lb (Or.inl g); omega
theorem rk_all {lv : Nat → Nat} {l l' : Nat} (h1 : ∀ u, u < c → lv u < l) (h2 : ∀ u, u < c → lv u < l') : rk lv c l 0 = rk lv c l' 0 := by
  unfold rk
  refine cnt_congr c (fun u hu => decide_eq_decide.mpr ?_)
  have := h1 u hu; have := h2 u hu
  omega
end TRA
