/-! Reducing, in the class (written by gen_c9.py over walk.py). -/
/-- the list L stands in f from s on -/
def sg (f : Nat → Int32) : Nat → List Int32 → Prop
  | _, [] => True
  | s, x :: t => f s = x ∧ sg f (s + 1) t
theorem sg_shift {f f' : Nat → Int32} : ∀ (L : List Int32) (s s' : Nat), sg f s L → (∀ i, i < L.length → f' (s' + i) = f (s + i)) → sg f' s' L
  | [], _, _, _, _ => trivial
  | x :: t, s, s', h, hq => by
    refine ⟨?_, sg_shift t (s + 1) (s' + 1) h.2 (fun i hi => ?_)⟩
    · have := hq 0 (by simp)
      rw [Nat.add_zero, Nat.add_zero] at this
      rw [this]; exact h.1
    · have := hq (i + 1) (by simpa using hi)
      rw [show s' + 1 + i = s' + (i + 1) by omega, show s + 1 + i = s + (i + 1) by omega]; exact this
theorem sg_ext {f f' : Nat → Int32} {L : List Int32} {s : Nat} (h : sg f s L) (hq : ∀ x, s ≤ x → x < s + L.length → f' x = f x) : sg f' s L := sg_shift L s s h (fun i hi => hq _ (by omega) (by omega))
theorem sg_app {f : Nat → Int32} : ∀ (p q : List Int32) (s : Nat), sg f s p → sg f (s + p.length) q → sg f s (p ++ q)
  | [], q, s, _, h => h
  | x :: t, q, s, h, h2 => ⟨h.1, sg_app t q (s + 1) h.2 (by rw [show s + 1 + t.length = s + (x :: t).length by simp; omega]; exact h2)⟩
theorem sg_get {f : Nat → Int32} : ∀ (L : List Int32) (s i : Nat) (x : Int32), sg f s L → L[i]? = some x → f (s + i) = x
  | [], _, _, _, _, h => by simp at h
  | y :: t, s, 0, x, h, h2 => by
    simp at h2
    rw [Nat.add_zero, h.1]; exact h2
  | y :: t, s, i + 1, x, h, h2 => by
    rw [List.getElem?_cons_succ] at h2
    have := sg_get t (s + 1) i x h.2 h2
    rw [show s + (i + 1) = s + 1 + i by omega]; exact this
theorem sg_eq {f : Nat → Int32} : ∀ (p q : List Int32) (s t : Nat), sg f s p → sg f t q → p.length = q.length → (∀ i, i < p.length → f (s + i) = f (t + i)) → p = q
  | [], [], _, _, _, _, _, _ => rfl
  | [], y :: q, _, _, _, _, hl, _ => by simp at hl
  | x :: p, [], _, _, _, _, hl, _ => by simp at hl
  | x :: p, y :: q, s, t, hp, hq, hl, he => by
    have h0 := he 0 (by simp)
    rw [Nat.add_zero, Nat.add_zero, hp.1, hq.1] at h0
    rw [h0, sg_eq p q (s + 1) (t + 1) hp.2 hq.2 (by simpa using hl) (fun i hi => by
      have := he (i + 1) (by simpa using hi)
      rw [show s + 1 + i = s + (i + 1) by omega, show t + 1 + i = t + (i + 1) by omega]; exact this)]
/-- forms as they come out: not empty, and no DUAL of a DUAL at the head -/
def gf (L : List Int32) : Prop := ∃ x t, L = x :: t ∧ (x = nI 9 → ∃ y t', t = y :: t' ∧ y ≠ nI 9)
/-- sizes -/
def okZ (N : nod) (zs : Nat → Nat) (c : Nat) : Prop := ∀ n, n < c → zs n ≤ 40 ∧ (nK N n < 6 → zs n = 1) ∧ (nK N n = 9 → zs n = 1 + zs (nL N n)) ∧ (6 ≤ nK N n → nK N n < 9 → zs n = 1 + zs (nL N n) + zs (nQ N n))
theorem rd_c (x : Int32) (t : List Int32) : rd (x :: t) = if x = nI 9 then t else if x = nI 0 then nI 1 :: t else if x = nI 1 then nI 0 :: t else nI 9 :: x :: t := rfl
theorem gf_rd {p : List Int32} (h : gf p) : gf (rd p) ∧ (rd p).length ≤ p.length + 1 := by
  obtain ⟨x, t, rfl, h9⟩ := h
  rw [rd_c]
  by_cases e : x = nI 9
  · rw [if_pos e]
    obtain ⟨y, t', rfl, hy⟩ := h9 e
    exact ⟨⟨y, t', rfl, fun q => absurd q hy⟩, by simp⟩
  · rw [if_neg e]
    by_cases e0 : x = nI 0
    · rw [if_pos e0]; exact ⟨⟨_, _, rfl, fun q => absurd q (by decide +kernel)⟩, by simp⟩
    · rw [if_neg e0]
      by_cases e1 : x = nI 1
      · rw [if_pos e1]; exact ⟨⟨_, _, rfl, fun q => absurd q (by decide +kernel)⟩, by simp⟩
      · rw [if_neg e1]; exact ⟨⟨_, _, rfl, fun _ => ⟨x, t, rfl, e⟩⟩, by simp⟩
theorem k9 {k : Nat} (h : k < 9) : nI k ≠ nI 9 := fun e => by rw [nI_eq (by omega) (by omega)] at e; omega
theorem gf_rt {k : Nat} {cp cq : Int32} {p q : List Int32} (hk : k ≤ 9) (hp : gf p) (hq : gf q) : gf (rt k cp cq p q) ∧ (rt k cp cq p q).length ≤ p.length + 1 + (if k = 9 then 0 else q.length) := by
  unfold rt
  by_cases e9 : k = 9
  · rw [if_pos e9, if_pos e9]; have := gf_rd hp; exact ⟨this.1, by omega⟩
  · rw [if_neg e9, if_neg e9]
    split
    · exact ⟨hp, by omega⟩
    · split
      · rename_i h2
        refine ⟨⟨_, _, rfl, fun _ => ⟨_, _, rfl, k9 (by omega)⟩⟩, ?_⟩
        obtain ⟨x, t, rfl, -⟩ := hp
        obtain ⟨y, u, rfl, -⟩ := hq
        simp; omega
      · exact ⟨⟨_, _, rfl, fun z => absurd z (k9 (by omega))⟩, by simp; omega⟩
theorem gf_rf {N : nod} {zs : Nat → Nat} {cs : Nat → Int32} {c : Nat} (hZ : okZ N zs c) (hK : ∀ n, n < c → nK N n ≤ 9) (hT : ∀ n, n < c → ¬ nK N n < 6 → nL N n < n ∧ nQ N n < n) : ∀ n, n < c → gf (rf N cs n) ∧ (rf N cs n).length ≤ 4 * zs n := by
  intro n
  induction n using Nat.strongRecOn with
  | _ n ih =>
    intro hn
    obtain ⟨-, z1, z2, z3⟩ := hZ n hn
    by_cases hk : nK N n < 6
    · rw [rf_o hk, z1 hk]
      refine ⟨⟨_, _, rfl, fun q => absurd q (k9 (by omega))⟩, ?_⟩
      unfold ro
      split
      · simp
      · split
        · simp
        · split <;> simp
    · obtain ⟨hl, hq⟩ := hT n hn hk
      have a := ih _ hl (by omega)
      have b := ih _ hq (by omega)
      rw [rf_t hk ⟨hl, hq⟩]
      have g := gf_rt (k := nK N n) (cp := cs (nL N n)) (cq := cs (nQ N n)) (hK n hn) a.1 b.1
      refine ⟨g.1, ?_⟩
      by_cases e9 : nK N n = 9
      · rw [if_pos e9] at g; have := z2 e9; omega
      · rw [if_neg e9] at g; have := z3 (by omega) (by have := hK n hn; omega); omega
section C9
variable {E : ev_E} {d : Nat} {h : ev_h} {sz k n : Nat} {Q : ev_Q}
theorem t_moveBack {b s e y : Nat} {f : Nat → Int32} (h1 : y ≤ s) (h2 : s ≤ e) (h3 : e ≤ 160) (hb : h b = some (iA E 160 f)) (kk : Q (.returned (some (.int (nI (e - y))))) (ev_up h b (iA E 160 (va_cpy f f s (s - y) (e - s)))) sz k n) : Ev E m_Term_moveBack (d + 1) 0 [some (.ref b), some (.int (nI s)), some (.int (nI e)), some (.int (nI y))] [] h sz k n Q := by
  refine ev_aload_0 (ev_dt dt_Term_moveBack_0 0 rfl) ?_
  refine ev_iload_1 (ev_dt dt_Term_moveBack_0 1 rfl) ?_
  refine ev_aload_0 (ev_dt dt_Term_moveBack_0 2 rfl) ?_
  refine ev_iload_1 (ev_dt dt_Term_moveBack_0 3 rfl) ?_
  refine ev_iload_3 (ev_dt dt_Term_moveBack_0 4 rfl) ?_
  refine ev_isub (ev_dt dt_Term_moveBack_0 5 rfl) (nI_sub (by omega)) ?_
  refine ev_iload_2 (ev_dt dt_Term_moveBack_0 6 rfl) ?_
  refine ev_iload_1 (ev_dt dt_Term_moveBack_0 7 rfl) ?_
  refine ev_isub (ev_dt dt_Term_moveBack_0 8 rfl) (nI_sub (by omega)) ?_
  refine ev_copy (ev_dt dt_Term_moveBack_0 9 rfl) a_Term_67 hb hb (by decide) (by decide) (by omega) (by omega) rfl ?_
  refine ev_iload_2 (ev_dt dt_Term_moveBack_0 10 rfl) ?_
  refine ev_iload_3 (ev_dt dt_Term_moveBack_0 11 rfl) ?_
  refine ev_isub (ev_dt dt_Term_moveBack_0 12 rfl) (nI_sub (by omega)) ?_
  exact ev_ireturn (ev_dt dt_Term_moveBack_0 13 rfl) rfl rfl kk
theorem cpy_o {f g : Nat → Int32} {sp dp n j : Nat} (h : j < dp ∨ dp + n ≤ j) : va_cpy f g sp dp n j = g j := by simp only [va_cpy]; rw [if_neg (by omega)]
theorem sg_mb {f : Nat → Int32} {L : List Int32} {s e y : Nat} (h : sg f s L) (hy : y ≤ s) (hl : s + L.length = e) : sg (va_cpy f f s (s - y) (e - s)) (s - y) L := by
  refine sg_shift L s (s - y) h (fun i hi => ?_)
  rw [pk_cpy_in (by omega) (by omega)]
  congr 1
  omega
theorem mb_lo {f : Nat → Int32} {s e y z : Nat} (hz : z < s - y) : va_cpy f f s (s - y) (e - s) z = f z := cpy_o (Or.inl hz)
theorem t_reduceDual {b s e : Nat} {x : Int32} {t : List Int32} {f : Nat → Int32} (he : e = s + 2 + t.length) (h3 : e ≤ 160) (hb : h b = some (iA E 160 f)) (h9s : f s = nI 9) (hsg : sg f (s + 1) (x :: t)) (kk : ∀ f', (∀ z, z < s → f' z = f z) → sg f' s (rd (x :: t)) → Q (.returned (some (.int (nI (s + (rd (x :: t)).length))))) (ev_up h b (iA E 160 f')) sz k n) : Ev E m_Term_reduceDual (d + 2) 0 [some (.ref b), some (.int (nI s)), some (.int (nI e)), none] [] h sz k n Q := by
  refine ev_aload_0 (ev_dt dt_Term_reduceDual_0 0 rfl) ?_
  refine ev_iload_1 (ev_dt dt_Term_reduceDual_0 1 rfl) ?_
  refine ev_ic1 (ev_dt dt_Term_reduceDual_0 2 rfl) ?_
  refine ev_addn (ev_dt dt_Term_reduceDual_0 3 rfl) ?_
  refine ev_iald (ev_dt dt_Term_reduceDual_0 4 rfl) hb (by omega) (by decide) rfl ?_
  rw [hsg.1]
  refine ev_istore_3 (ev_dt dt_Term_reduceDual_0 5 rfl) (by decide) rfl ?_
  refine ev_iload_3 (ev_dt dt_Term_reduceDual_0 6 rfl) ?_
  refine ev_bipush (ev_dt dt_Term_reduceDual_0 7 rfl) bi_9 ?_
  refine ev_icmp_ne (tgt := 22) (ev_dt dt_Term_reduceDual_0 8 rfl) (by decide) (fun h9 => ?_) (fun h9 => ?_)
  · refine ev_iload_3 (ev_dt dt_Term_reduceDual_0 17 rfl) ?_
    refine ev_if_eq (tgt := 31) (ev_dt dt_Term_reduceDual_0 18 rfl) (by decide) (fun h0 => ?_) (fun h0 => ?_)
    · refine ev_aload_0 (ev_dt dt_Term_reduceDual_0 22 rfl) ?_
      refine ev_iload_1 (ev_dt dt_Term_reduceDual_0 23 rfl) ?_
      refine ev_ic1 (ev_dt dt_Term_reduceDual_0 24 rfl) ?_
      refine ev_addn (ev_dt dt_Term_reduceDual_0 25 rfl) ?_
      refine ev_iload_3 (ev_dt dt_Term_reduceDual_0 26 rfl) ?_
      refine ev_if_neF (tgt := 43) (ev_dt dt_Term_reduceDual_0 27 rfl) (by decide) h0 ?_
      refine ev_ic1 (ev_dt dt_Term_reduceDual_0 28 rfl) ?_
      refine ev_goto (tgt := 44) (ev_dt dt_Term_reduceDual_0 29 rfl) (by decide) ?_
      refine ev_iast (ev_dt dt_Term_reduceDual_0 31 rfl) hb (by omega) (by decide) ?_
      refine ev_aload_0 (ev_dt dt_Term_reduceDual_0 32 rfl) ?_
      refine ev_iload_1 (ev_dt dt_Term_reduceDual_0 33 rfl) ?_
      refine ev_ic1 (ev_dt dt_Term_reduceDual_0 34 rfl) ?_
      refine ev_addn (ev_dt dt_Term_reduceDual_0 35 rfl) ?_
      refine ev_iload_2 (ev_dt dt_Term_reduceDual_0 36 rfl) ?_
      refine ev_ic1 (ev_dt dt_Term_reduceDual_0 37 rfl) ?_
      refine ev_callS (ev_dt dt_Term_reduceDual_0 38 rfl) s_Term_60 [.ref b, .int (nI (s + 1)), .int (nI e), .int (nI 1)] rfl np_Term_moveBack rfl (ev_lk_of (j := 0) rfl rfl) (t_moveBack (d := d) (f := upd f (s + 1) (nI 1)) (by omega) (by omega) (by omega) ev_up_s (ev_r1 ?_))
      have hr : rd (x :: t) = nI 1 :: t := by rw [rd_c, if_neg h9, if_pos (h0.trans nI_0.symm)]
      have h2 : sg (upd f (s + 1) (nI 1)) (s + 1) (nI 1 :: t) := ⟨pk_us, sg_ext hsg.2 (fun z q1 q2 => pk_un (by omega))⟩
      have h3 := sg_mb h2 (show 1 ≤ s + 1 by omega) (show s + 1 + (nI 1 :: t).length = e by simp; omega)
      rw [ev_up_up]
      rw [show e - 1 = s + (rd (x :: t)).length by rw [hr]; simp; omega]
      exact ev_ireturn (ev_dt dt_Term_reduceDual_0 39 rfl) rfl rfl (kk _ (fun z hz => by rw [mb_lo (by omega), pk_un (by omega)]) (by rw [hr]; exact h3))
    · refine ev_iload_3 (ev_dt dt_Term_reduceDual_0 19 rfl) ?_
      refine ev_ic1 (ev_dt dt_Term_reduceDual_0 20 rfl) ?_
      refine ev_icmp_ne (tgt := 55) (ev_dt dt_Term_reduceDual_0 21 rfl) (by decide) (fun h1 => ?_) (fun h1 => ?_)
      · refine ev_iload_2 (ev_dt dt_Term_reduceDual_0 40 rfl) ?_
        have hr : rd (x :: t) = nI 9 :: x :: t := by rw [rd_c, if_neg h9, if_neg (fun q => h0 (q.trans nI_0)), if_neg h1]
        rw [show e = s + (rd (x :: t)).length by rw [hr]; simp; omega]
        have k2 := kk f (fun _ _ => rfl) (by rw [hr]; exact ⟨h9s, hsg⟩)
        rw [ev_up_self hb] at k2
        exact ev_ireturn (ev_dt dt_Term_reduceDual_0 41 rfl) rfl rfl k2
      · refine ev_aload_0 (ev_dt dt_Term_reduceDual_0 22 rfl) ?_
        refine ev_iload_1 (ev_dt dt_Term_reduceDual_0 23 rfl) ?_
        refine ev_ic1 (ev_dt dt_Term_reduceDual_0 24 rfl) ?_
        refine ev_addn (ev_dt dt_Term_reduceDual_0 25 rfl) ?_
        refine ev_iload_3 (ev_dt dt_Term_reduceDual_0 26 rfl) ?_
        refine ev_if_neT (tgt := 43) (ev_dt dt_Term_reduceDual_0 27 rfl) (by decide) (fun q => h0 q) ?_
        refine ev_ic0 (ev_dt dt_Term_reduceDual_0 30 rfl) ?_
        refine ev_iast (ev_dt dt_Term_reduceDual_0 31 rfl) hb (by omega) (by decide) ?_
        refine ev_aload_0 (ev_dt dt_Term_reduceDual_0 32 rfl) ?_
        refine ev_iload_1 (ev_dt dt_Term_reduceDual_0 33 rfl) ?_
        refine ev_ic1 (ev_dt dt_Term_reduceDual_0 34 rfl) ?_
        refine ev_addn (ev_dt dt_Term_reduceDual_0 35 rfl) ?_
        refine ev_iload_2 (ev_dt dt_Term_reduceDual_0 36 rfl) ?_
        refine ev_ic1 (ev_dt dt_Term_reduceDual_0 37 rfl) ?_
        refine ev_callS (ev_dt dt_Term_reduceDual_0 38 rfl) s_Term_60 [.ref b, .int (nI (s + 1)), .int (nI e), .int (nI 1)] rfl np_Term_moveBack rfl (ev_lk_of (j := 0) rfl rfl) (t_moveBack (d := d) (f := upd f (s + 1) (nI 0)) (by omega) (by omega) (by omega) ev_up_s (ev_r1 ?_))
        have hr : rd (x :: t) = nI 0 :: t := by rw [rd_c, if_neg h9, if_neg (fun q => h0 (q.trans nI_0)), if_pos h1]
        have h2 : sg (upd f (s + 1) (nI 0)) (s + 1) (nI 0 :: t) := ⟨pk_us, sg_ext hsg.2 (fun z q1 q2 => pk_un (by omega))⟩
        have h3 := sg_mb h2 (show 1 ≤ s + 1 by omega) (show s + 1 + (nI 0 :: t).length = e by simp; omega)
        rw [ev_up_up]
        rw [show e - 1 = s + (rd (x :: t)).length by rw [hr]; simp; omega]
        exact ev_ireturn (ev_dt dt_Term_reduceDual_0 39 rfl) rfl rfl (kk _ (fun z hz => by rw [mb_lo (by omega), pk_un (by omega)]) (by rw [hr]; exact h3))
  · refine ev_aload_0 (ev_dt dt_Term_reduceDual_0 9 rfl) ?_
    refine ev_iload_1 (ev_dt dt_Term_reduceDual_0 10 rfl) ?_
    refine ev_ic2 (ev_dt dt_Term_reduceDual_0 11 rfl) ?_
    refine ev_addn (ev_dt dt_Term_reduceDual_0 12 rfl) ?_
    refine ev_iload_2 (ev_dt dt_Term_reduceDual_0 13 rfl) ?_
    refine ev_ic2 (ev_dt dt_Term_reduceDual_0 14 rfl) ?_
    refine ev_callS (ev_dt dt_Term_reduceDual_0 15 rfl) s_Term_60 [.ref b, .int (nI (s + 2)), .int (nI e), .int (nI 2)] rfl np_Term_moveBack rfl (ev_lk_of (j := 0) rfl rfl) (t_moveBack (d := d) (by omega) (by omega) (by omega) hb (ev_r1 ?_))
    have hr : rd (x :: t) = t := by rw [rd_c, if_pos h9]
    have h3 := sg_mb (s := s + 2) hsg.2 (show 2 ≤ s + 2 by omega) (show s + 2 + t.length = e by omega)
    rw [show e - 2 = s + (rd (x :: t)).length by rw [hr]; omega]
    exact ev_ireturn (ev_dt dt_Term_reduceDual_0 16 rfl) rfl rfl (kk _ (fun z hz => mb_lo (by omega)) (by rw [hr]; exact h3))
theorem t_areAlike {b a1 a2 e : Nat} {p q : List Int32} {f : Nat → Int32} (h2 : a2 = a1 + p.length) (he : e = a2 + q.length) (h3 : e ≤ 160) (hb : h b = some (iA E 160 f)) (hp : sg f a1 p) (hq : sg f a2 q) (kt : p = q → Q (.returned (some (.int (nI 1)))) h sz k n) (kf : p ≠ q → Q (.returned (some (.int (nI 0)))) h sz k n) : Ev E m_Term_areAlike d 0 [some (.ref b), some (.int (nI a1)), some (.int (nI a2)), some (.int (nI e)), none, none] [] h sz k n Q := by
  refine ev_iload_2 (ev_dt dt_Term_areAlike_0 0 rfl) ?_
  refine ev_iload_1 (ev_dt dt_Term_areAlike_0 1 rfl) ?_
  refine ev_isub (ev_dt dt_Term_areAlike_0 2 rfl) (nI_sub (by omega)) ?_
  refine ev_istore_4 (ev_dt dt_Term_areAlike_0 3 rfl) (by decide) rfl ?_
  refine ev_iload_3 (ev_dt dt_Term_areAlike_0 4 rfl) ?_
  refine ev_iload_2 (ev_dt dt_Term_areAlike_0 5 rfl) ?_
  refine ev_isub (ev_dt dt_Term_areAlike_0 6 rfl) (nI_sub (by omega)) ?_
  refine ev_iload_4 (ev_dt dt_Term_areAlike_0 7 rfl) ?_
  refine ev_icmp_eq (tgt := 15) (ev_dt dt_Term_areAlike_0 8 rfl) (by decide) (fun hl => ?_) (fun hl => ?_)
  · have hl' : e - a2 = a2 - a1 := (nI_eq (by omega) (by omega)).mp hl
    have hll : p.length = q.length := by omega
    have loop : ∀ m' j, j + m' = a2 - a1 → (∀ i, i < j → f (a1 + i) = f (a2 + i)) → Ev E m_Term_areAlike d 18 [some (.ref b), some (.int (nI a1)), some (.int (nI a2)), some (.int (nI e)), some (.int (nI (a2 - a1))), some (.int (nI j))] [] h sz k n Q := by
      intro m'
      induction m' with
      | zero =>
        intro j hj hI
        refine ev_iload_5 (ev_dt dt_Term_areAlike_0 13 rfl) ?_
        refine ev_iload_4 (ev_dt dt_Term_areAlike_0 14 rfl) ?_
        refine ev_icmp_geT (tgt := 48) (ev_dt dt_Term_areAlike_0 15 rfl) (by decide) (nI_le (by omega) (by omega)) ?_
        refine ev_ic1 (ev_dt dt_Term_areAlike_0 31 rfl) ?_
        exact ev_ireturn (ev_dt dt_Term_areAlike_0 32 rfl) rfl bz1 (kt (sg_eq p q a1 a2 hp hq (by omega) (fun i hi => hI i (by omega))))
      | succ m' ih =>
        intro j hj hI
        refine ev_iload_5 (ev_dt dt_Term_areAlike_0 13 rfl) ?_
        refine ev_iload_4 (ev_dt dt_Term_areAlike_0 14 rfl) ?_
        refine ev_icmp_geF (tgt := 48) (ev_dt dt_Term_areAlike_0 15 rfl) (by decide) (nI_ge (by omega) (by omega)) ?_
        refine ev_aload_0 (ev_dt dt_Term_areAlike_0 16 rfl) ?_
        refine ev_iload_1 (ev_dt dt_Term_areAlike_0 17 rfl) ?_
        refine ev_iload_5 (ev_dt dt_Term_areAlike_0 18 rfl) ?_
        refine ev_addn (ev_dt dt_Term_areAlike_0 19 rfl) ?_
        refine ev_iald (ev_dt dt_Term_areAlike_0 20 rfl) hb (by omega) (by decide) rfl ?_
        refine ev_aload_0 (ev_dt dt_Term_areAlike_0 21 rfl) ?_
        refine ev_iload_2 (ev_dt dt_Term_areAlike_0 22 rfl) ?_
        refine ev_iload_5 (ev_dt dt_Term_areAlike_0 23 rfl) ?_
        refine ev_addn (ev_dt dt_Term_areAlike_0 24 rfl) ?_
        refine ev_iald (ev_dt dt_Term_areAlike_0 25 rfl) hb (by omega) (by decide) rfl ?_
        refine ev_icmp_eq (tgt := 42) (ev_dt dt_Term_areAlike_0 26 rfl) (by decide) (fun hx => ?_) (fun hx => ?_)
        · refine ev_inc1_5 (ev_dt dt_Term_areAlike_0 29 rfl) (by decide) rfl ?_
          refine ev_goto (tgt := 18) (ev_dt dt_Term_areAlike_0 30 rfl) (by decide) ?_
          exact ih (j + 1) (by omega) (fun i hi => by
          by_cases e : i = j
          · subst e; exact hx
          · exact hI i (by omega))
        · refine ev_ic0 (ev_dt dt_Term_areAlike_0 27 rfl) ?_
          exact ev_ireturn (ev_dt dt_Term_areAlike_0 28 rfl) rfl bz0 (kf (fun e => by
          subst e
          have g1 : p[j]? = some (p[j]'(by omega)) := List.getElem?_eq_getElem _
          exact hx ((sg_get p a1 j _ hp g1).trans (sg_get p a2 j _ hq g1).symm)))
    refine ev_ic0 (ev_dt dt_Term_areAlike_0 11 rfl) ?_
    refine ev_istore_5 (ev_dt dt_Term_areAlike_0 12 rfl) (by decide) rfl ?_
    exact loop (a2 - a1) 0 (by omega) (fun i hi => absurd hi (Nat.not_lt_zero _))
  · refine ev_ic0 (ev_dt dt_Term_areAlike_0 9 rfl) ?_
    exact ev_ireturn (ev_dt dt_Term_areAlike_0 10 rfl) rfl bz0 (kf (fun e => hl (by rw [nI_eq (by omega) (by omega)]; subst e; omega)))
theorem t_pullDualOut {b s c e kd : Nat} {tp tq : List Int32} {f : Nat → Int32} (hc2 : c = s + 1 + (nI 9 :: tp).length) (he : e = c + (nI 9 :: tq).length) (hl : e ≤ 160) (hb : h b = some (iA E 160 f)) (hks : f s = nI kd) (hp : sg f (s + 1) (nI 9 :: tp)) (hq : sg f c (nI 9 :: tq)) (kk : ∀ f', (∀ z, z < s → f' z = f z) → sg f' s (nI 9 :: nI kd :: (tp ++ tq)) → Q (.returned (some (.int (nI (s + (nI 9 :: nI kd :: (tp ++ tq)).length))))) (ev_up h b (iA E 160 f')) sz k n) : Ev E m_Term_pullDualOut (d + 2) 0 [some (.ref b), some (.int (nI s)), some (.int (nI c)), some (.int (nI e))] [] h sz k n Q := by
  have hc3 : s + 2 ≤ c := by simp at hc2; omega
  have hce : c + 1 ≤ e := by simp at he; omega
  refine ev_aload_0 (ev_dt dt_Term_pullDualOut_0 0 rfl) ?_
  refine ev_iload_1 (ev_dt dt_Term_pullDualOut_0 1 rfl) ?_
  refine ev_ic1 (ev_dt dt_Term_pullDualOut_0 2 rfl) ?_
  refine ev_addn (ev_dt dt_Term_pullDualOut_0 3 rfl) ?_
  refine ev_aload_0 (ev_dt dt_Term_pullDualOut_0 4 rfl) ?_
  refine ev_iload_1 (ev_dt dt_Term_pullDualOut_0 5 rfl) ?_
  refine ev_iald (ev_dt dt_Term_pullDualOut_0 6 rfl) hb (by omega) (by decide) rfl ?_
  refine ev_iast (ev_dt dt_Term_pullDualOut_0 7 rfl) hb (by omega) (by decide) ?_
  refine ev_aload_0 (ev_dt dt_Term_pullDualOut_0 8 rfl) ?_
  refine ev_iload_1 (ev_dt dt_Term_pullDualOut_0 9 rfl) ?_
  refine ev_bipush (ev_dt dt_Term_pullDualOut_0 10 rfl) bi_9 ?_
  refine ev_iast (ev_dt dt_Term_pullDualOut_0 11 rfl) ev_up_s (by omega) (by decide) ?_
  refine ev_aload_0 (ev_dt dt_Term_pullDualOut_0 12 rfl) ?_
  refine ev_iload_2 (ev_dt dt_Term_pullDualOut_0 13 rfl) ?_
  refine ev_ic1 (ev_dt dt_Term_pullDualOut_0 14 rfl) ?_
  refine ev_addn (ev_dt dt_Term_pullDualOut_0 15 rfl) ?_
  refine ev_iload_3 (ev_dt dt_Term_pullDualOut_0 16 rfl) ?_
  refine ev_ic1 (ev_dt dt_Term_pullDualOut_0 17 rfl) ?_
  refine ev_callS (ev_dt dt_Term_pullDualOut_0 18 rfl) s_Term_60 [.ref b, .int (nI (c + 1)), .int (nI e), .int (nI 1)] rfl np_Term_moveBack rfl (ev_lk_of (j := 0) rfl rfl) (t_moveBack (d := d) (f := upd (upd f (s + 1) (f s)) s (nI 9)) (by omega) (by omega) (by omega) ev_up_s (ev_r1 ?_))
  rw [ev_up_up, ev_up_up]
  have h1 : ∀ z, s + 2 ≤ z → upd (upd f (s + 1) (f s)) s (nI 9) z = f z := fun z hz => by rw [pk_un (by omega), pk_un (by omega)]
  have hq2 : sg (upd (upd f (s + 1) (f s)) s (nI 9)) (c + 1) tq := sg_ext hq.2 (fun z a b => h1 z (by omega))
  have h3 := sg_mb hq2 (show 1 ≤ c + 1 by omega) (show c + 1 + tq.length = e by simp at he; omega)
  refine ev_ireturn (ev_dt dt_Term_pullDualOut_0 19 rfl) rfl rfl ?_
  rw [show e - 1 = s + (nI 9 :: nI kd :: (tp ++ tq)).length by simp; simp at he hc2; omega]
  refine kk _ (fun z hz => by rw [mb_lo (by omega), pk_un (by omega), pk_un (by omega)]) ⟨?_, ?_, ?_⟩
  · rw [mb_lo (by omega), pk_us]
  · rw [mb_lo (by simp at hc2; omega), pk_un (by omega), pk_us]; exact hks
  · refine sg_app tp tq (s + 1 + 1) (sg_ext hp.2 (fun z a b => by rw [mb_lo (by simp at hc2; omega)]; exact h1 z (by omega))) ?_
    rw [show s + 1 + 1 + tp.length = c + 1 - 1 by simp at hc2; omega]; exact h3
end C9
