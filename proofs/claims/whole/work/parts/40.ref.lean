/-! The reference's memory: scalars F (0 thrown, 1 rows, 2 nodes, 3 answers, 4 made, 5 forms), arrays A (by number). Written by gen_ref.py. -/
def rf_fs (m : Nat) (F : Nat → Nat) : List Value := [.int (nI (F 0)), .int (nI (F 1)), .ref (m + 1), .ref (m + 2), .int (nI (F 2)), .ref (m + 3), .ref (m + 4), .ref (m + 5), .ref (m + 6), .ref (m + 7), .ref (m + 8), .ref (m + 9), .ref (m + 10), .ref (m + 11), .ref (m + 12), .ref (m + 13), .ref (m + 14), .ref (m + 15), .ref (m + 16), .ref (m + 17), .ref (m + 18), .ref (m + 19), .int (nI (F 3)), .ref (m + 20), .int (nI (F 4)), .ref (m + 21), .ref (m + 22), .ref (m + 23), .ref (m + 24), .ref (m + 25), .ref (m + 26), .int (nI (F 5)), .ref (m + 27), .ref (m + 28)]
def rf_len (j : Nat) : Nat := [120, 480, 24, 24, 24, 24, 24, 240, 240, 24, 5, 20, 20, 20, 4, 4, 480, 120, 120, 24, 100, 100, 100, 100, 100, 24, 200, 100].getD j 0
def rf_bo (j : Nat) : Bool := j == 0 || j == 14 || j == 16 || j == 17
def rf_c (E : ev_E) (j : Nat) (f : Nat → Int32) : va_E := if rf_bo j = true then zA E (rf_len j) f else iA E (rf_len j) f
def Rf (E : ev_E) (m : Nat) (F : Nat → Nat) (A : Nat → Nat → Int32) (h : ev_h) : Prop := h m = some (oB 10 (rf_fs m F)) ∧ ∀ j, j < 28 → h (m + 1 + j) = some (rf_c E j (A j))
section RFS
variable {E : ev_E} {m : Nat} {F : Nat → Nat} {A : Nat → Nat → Int32} {h : ev_h}
theorem Rf.a0 (hM : Rf E m F A h) : h (m + 1) = some (zA E 120 (A 0)) := hM.2 0 (by decide)
theorem Rf.a1 (hM : Rf E m F A h) : h (m + 2) = some (iA E 480 (A 1)) := hM.2 1 (by decide)
theorem Rf.a2 (hM : Rf E m F A h) : h (m + 3) = some (iA E 24 (A 2)) := hM.2 2 (by decide)
theorem Rf.a3 (hM : Rf E m F A h) : h (m + 4) = some (iA E 24 (A 3)) := hM.2 3 (by decide)
theorem Rf.a4 (hM : Rf E m F A h) : h (m + 5) = some (iA E 24 (A 4)) := hM.2 4 (by decide)
theorem Rf.a5 (hM : Rf E m F A h) : h (m + 6) = some (iA E 24 (A 5)) := hM.2 5 (by decide)
theorem Rf.a6 (hM : Rf E m F A h) : h (m + 7) = some (iA E 24 (A 6)) := hM.2 6 (by decide)
theorem Rf.a7 (hM : Rf E m F A h) : h (m + 8) = some (iA E 240 (A 7)) := hM.2 7 (by decide)
theorem Rf.a8 (hM : Rf E m F A h) : h (m + 9) = some (iA E 240 (A 8)) := hM.2 8 (by decide)
theorem Rf.a9 (hM : Rf E m F A h) : h (m + 10) = some (iA E 24 (A 9)) := hM.2 9 (by decide)
theorem Rf.a10 (hM : Rf E m F A h) : h (m + 11) = some (iA E 5 (A 10)) := hM.2 10 (by decide)
theorem Rf.a11 (hM : Rf E m F A h) : h (m + 12) = some (iA E 20 (A 11)) := hM.2 11 (by decide)
theorem Rf.a12 (hM : Rf E m F A h) : h (m + 13) = some (iA E 20 (A 12)) := hM.2 12 (by decide)
theorem Rf.a13 (hM : Rf E m F A h) : h (m + 14) = some (iA E 20 (A 13)) := hM.2 13 (by decide)
theorem Rf.a14 (hM : Rf E m F A h) : h (m + 15) = some (zA E 4 (A 14)) := hM.2 14 (by decide)
theorem Rf.a15 (hM : Rf E m F A h) : h (m + 16) = some (iA E 4 (A 15)) := hM.2 15 (by decide)
theorem Rf.a16 (hM : Rf E m F A h) : h (m + 17) = some (zA E 480 (A 16)) := hM.2 16 (by decide)
theorem Rf.a17 (hM : Rf E m F A h) : h (m + 18) = some (zA E 120 (A 17)) := hM.2 17 (by decide)
theorem Rf.a18 (hM : Rf E m F A h) : h (m + 19) = some (iA E 120 (A 18)) := hM.2 18 (by decide)
theorem Rf.a19 (hM : Rf E m F A h) : h (m + 20) = some (iA E 24 (A 19)) := hM.2 19 (by decide)
theorem Rf.a20 (hM : Rf E m F A h) : h (m + 21) = some (iA E 100 (A 20)) := hM.2 20 (by decide)
theorem Rf.a21 (hM : Rf E m F A h) : h (m + 22) = some (iA E 100 (A 21)) := hM.2 21 (by decide)
theorem Rf.a22 (hM : Rf E m F A h) : h (m + 23) = some (iA E 100 (A 22)) := hM.2 22 (by decide)
theorem Rf.a23 (hM : Rf E m F A h) : h (m + 24) = some (iA E 100 (A 23)) := hM.2 23 (by decide)
theorem Rf.a24 (hM : Rf E m F A h) : h (m + 25) = some (iA E 100 (A 24)) := hM.2 24 (by decide)
theorem Rf.a25 (hM : Rf E m F A h) : h (m + 26) = some (iA E 24 (A 25)) := hM.2 25 (by decide)
theorem Rf.a26 (hM : Rf E m F A h) : h (m + 27) = some (iA E 200 (A 26)) := hM.2 26 (by decide)
theorem Rf.a27 (hM : Rf E m F A h) : h (m + 28) = some (iA E 100 (A 27)) := hM.2 27 (by decide)
/-- one scalar -/
def uF (F : Nat → Nat) (i y : Nat) : Nat → Nat := fun j => if j = i then y else F j
theorem uF_s {F : Nat → Nat} {i y : Nat} : uF F i y i = y := if_pos rfl
theorem uF_n {F : Nat → Nat} {i j y : Nat} (h : j ≠ i) : uF F i y j = F j := if_neg h
/-- one element of one array -/
def uA (A : Nat → Nat → Int32) (j i : Nat) (x : Int32) : Nat → Nat → Int32 := fun a => if a = j then upd (A j) i x else A a
theorem uA_u {A : Nat → Nat → Int32} {j i : Nat} {x : Int32} : uA A j i x j = upd (A j) i x := if_pos rfl
theorem uA_a {A : Nat → Nat → Int32} {j i a : Nat} {x : Int32} (h : a ≠ j) : uA A j i x a = A a := if_neg h
/-- nothing outside the reference has changed -/
def fR (m : Nat) (h h' : ev_h) : Prop := ∀ q, q < m ∨ m + 29 ≤ q → h' q = h q
theorem fR.rf {m : Nat} {h : ev_h} : fR m h h := fun _ _ => rfl
theorem fR.tr {m : Nat} {h h1 h2 : ev_h} (a : fR m h h1) (b : fR m h1 h2) : fR m h h2 := fun q hq => (b q hq).trans (a q hq)
theorem Rf.putA (hM : Rf E m F A h) {j i : Nat} (hj : j < 28) (x : Int32) : Rf E m F (uA A j i x) (ev_up h (m + 1 + j) (rf_c E j (upd (A j) i x))) ∧ fR m h (ev_up h (m + 1 + j) (rf_c E j (upd (A j) i x))) := by
  refine ⟨⟨(ev_up_n (by omega)).trans hM.1, fun a ha => ?_⟩, fun q hq => ev_up_n (by omega)⟩
  by_cases e : a = j
  · subst e; rw [ev_up_s, uA_u]
  · rw [ev_up_n (by omega), uA_a e]; exact hM.2 a ha
theorem Rf.putF (hM : Rf E m F A h) (i y : Nat) : Rf E m (uF F i y) A (ev_up h m (oB 10 (rf_fs m (uF F i y)))) ∧ fR m h (ev_up h m (oB 10 (rf_fs m (uF F i y)))) :=
  ⟨⟨ev_up_s, fun a ha => (ev_up_n (by omega)).trans (hM.2 a ha)⟩, fun q hq => ev_up_n (by omega)⟩
theorem Rf.kept {h' : ev_h} (hM : Rf E m F A h) (hq : ∀ q, m ≤ q → q < m + 29 → h' q = h q) : Rf E m F A h' :=
  ⟨(hq m (by omega) (by omega)).trans hM.1, fun j hj => (hq (m + 1 + j) (by omega) (by omega)).trans (hM.2 j hj)⟩
end RFS
section RFE
variable {E : ev_E} {M : ev_M} {d pc pc' : Nat} {ls : List (Option Value)} {st : List Value} {h : ev_h} {sz k n : Nat} {Q : ev_Q} {m : Nat} {F : Nat → Nat} {A : Nat → Nat → Int32}
theorem rf_st0 {i : Nat} {x : Int32} (hd : ev_d M pc .bastore 1 pc') (hM : Rf E m F A h) (hi : i < 120) (hx : narrow .boolean (.int x) = .int x) (kk : ∀ h', Rf E m F (uA A 0 i x) h' → fR m h h' → Ev E M d pc' ls st h' sz k n Q) : Ev E M d pc ls (.int x :: .int (nI i) :: .ref (m + 1) :: st) h sz k n Q :=
  ev_zast hd hM.a0 hi (by decide) hx (kk _ (hM.putA (j := 0) (by decide) x).1 (hM.putA (j := 0) (by decide) x).2)
theorem rf_st1 {i : Nat} {x : Int32} (hd : ev_d M pc .iastore 1 pc') (hM : Rf E m F A h) (hi : i < 480) (kk : ∀ h', Rf E m F (uA A 1 i x) h' → fR m h h' → Ev E M d pc' ls st h' sz k n Q) : Ev E M d pc ls (.int x :: .int (nI i) :: .ref (m + 2) :: st) h sz k n Q :=
  ev_iast hd hM.a1 hi (by decide) (kk _ (hM.putA (j := 1) (by decide) x).1 (hM.putA (j := 1) (by decide) x).2)
theorem rf_st2 {i : Nat} {x : Int32} (hd : ev_d M pc .iastore 1 pc') (hM : Rf E m F A h) (hi : i < 24) (kk : ∀ h', Rf E m F (uA A 2 i x) h' → fR m h h' → Ev E M d pc' ls st h' sz k n Q) : Ev E M d pc ls (.int x :: .int (nI i) :: .ref (m + 3) :: st) h sz k n Q :=
  ev_iast hd hM.a2 hi (by decide) (kk _ (hM.putA (j := 2) (by decide) x).1 (hM.putA (j := 2) (by decide) x).2)
theorem rf_st3 {i : Nat} {x : Int32} (hd : ev_d M pc .iastore 1 pc') (hM : Rf E m F A h) (hi : i < 24) (kk : ∀ h', Rf E m F (uA A 3 i x) h' → fR m h h' → Ev E M d pc' ls st h' sz k n Q) : Ev E M d pc ls (.int x :: .int (nI i) :: .ref (m + 4) :: st) h sz k n Q :=
  ev_iast hd hM.a3 hi (by decide) (kk _ (hM.putA (j := 3) (by decide) x).1 (hM.putA (j := 3) (by decide) x).2)
theorem rf_st4 {i : Nat} {x : Int32} (hd : ev_d M pc .iastore 1 pc') (hM : Rf E m F A h) (hi : i < 24) (kk : ∀ h', Rf E m F (uA A 4 i x) h' → fR m h h' → Ev E M d pc' ls st h' sz k n Q) : Ev E M d pc ls (.int x :: .int (nI i) :: .ref (m + 5) :: st) h sz k n Q :=
  ev_iast hd hM.a4 hi (by decide) (kk _ (hM.putA (j := 4) (by decide) x).1 (hM.putA (j := 4) (by decide) x).2)
theorem rf_st5 {i : Nat} {x : Int32} (hd : ev_d M pc .iastore 1 pc') (hM : Rf E m F A h) (hi : i < 24) (kk : ∀ h', Rf E m F (uA A 5 i x) h' → fR m h h' → Ev E M d pc' ls st h' sz k n Q) : Ev E M d pc ls (.int x :: .int (nI i) :: .ref (m + 6) :: st) h sz k n Q :=
  ev_iast hd hM.a5 hi (by decide) (kk _ (hM.putA (j := 5) (by decide) x).1 (hM.putA (j := 5) (by decide) x).2)
theorem rf_st6 {i : Nat} {x : Int32} (hd : ev_d M pc .iastore 1 pc') (hM : Rf E m F A h) (hi : i < 24) (kk : ∀ h', Rf E m F (uA A 6 i x) h' → fR m h h' → Ev E M d pc' ls st h' sz k n Q) : Ev E M d pc ls (.int x :: .int (nI i) :: .ref (m + 7) :: st) h sz k n Q :=
  ev_iast hd hM.a6 hi (by decide) (kk _ (hM.putA (j := 6) (by decide) x).1 (hM.putA (j := 6) (by decide) x).2)
theorem rf_st7 {i : Nat} {x : Int32} (hd : ev_d M pc .iastore 1 pc') (hM : Rf E m F A h) (hi : i < 240) (kk : ∀ h', Rf E m F (uA A 7 i x) h' → fR m h h' → Ev E M d pc' ls st h' sz k n Q) : Ev E M d pc ls (.int x :: .int (nI i) :: .ref (m + 8) :: st) h sz k n Q :=
  ev_iast hd hM.a7 hi (by decide) (kk _ (hM.putA (j := 7) (by decide) x).1 (hM.putA (j := 7) (by decide) x).2)
theorem rf_st8 {i : Nat} {x : Int32} (hd : ev_d M pc .iastore 1 pc') (hM : Rf E m F A h) (hi : i < 240) (kk : ∀ h', Rf E m F (uA A 8 i x) h' → fR m h h' → Ev E M d pc' ls st h' sz k n Q) : Ev E M d pc ls (.int x :: .int (nI i) :: .ref (m + 9) :: st) h sz k n Q :=
  ev_iast hd hM.a8 hi (by decide) (kk _ (hM.putA (j := 8) (by decide) x).1 (hM.putA (j := 8) (by decide) x).2)
theorem rf_st9 {i : Nat} {x : Int32} (hd : ev_d M pc .iastore 1 pc') (hM : Rf E m F A h) (hi : i < 24) (kk : ∀ h', Rf E m F (uA A 9 i x) h' → fR m h h' → Ev E M d pc' ls st h' sz k n Q) : Ev E M d pc ls (.int x :: .int (nI i) :: .ref (m + 10) :: st) h sz k n Q :=
  ev_iast hd hM.a9 hi (by decide) (kk _ (hM.putA (j := 9) (by decide) x).1 (hM.putA (j := 9) (by decide) x).2)
theorem rf_st10 {i : Nat} {x : Int32} (hd : ev_d M pc .iastore 1 pc') (hM : Rf E m F A h) (hi : i < 5) (kk : ∀ h', Rf E m F (uA A 10 i x) h' → fR m h h' → Ev E M d pc' ls st h' sz k n Q) : Ev E M d pc ls (.int x :: .int (nI i) :: .ref (m + 11) :: st) h sz k n Q :=
  ev_iast hd hM.a10 hi (by decide) (kk _ (hM.putA (j := 10) (by decide) x).1 (hM.putA (j := 10) (by decide) x).2)
theorem rf_st11 {i : Nat} {x : Int32} (hd : ev_d M pc .iastore 1 pc') (hM : Rf E m F A h) (hi : i < 20) (kk : ∀ h', Rf E m F (uA A 11 i x) h' → fR m h h' → Ev E M d pc' ls st h' sz k n Q) : Ev E M d pc ls (.int x :: .int (nI i) :: .ref (m + 12) :: st) h sz k n Q :=
  ev_iast hd hM.a11 hi (by decide) (kk _ (hM.putA (j := 11) (by decide) x).1 (hM.putA (j := 11) (by decide) x).2)
theorem rf_st12 {i : Nat} {x : Int32} (hd : ev_d M pc .iastore 1 pc') (hM : Rf E m F A h) (hi : i < 20) (kk : ∀ h', Rf E m F (uA A 12 i x) h' → fR m h h' → Ev E M d pc' ls st h' sz k n Q) : Ev E M d pc ls (.int x :: .int (nI i) :: .ref (m + 13) :: st) h sz k n Q :=
  ev_iast hd hM.a12 hi (by decide) (kk _ (hM.putA (j := 12) (by decide) x).1 (hM.putA (j := 12) (by decide) x).2)
theorem rf_st13 {i : Nat} {x : Int32} (hd : ev_d M pc .iastore 1 pc') (hM : Rf E m F A h) (hi : i < 20) (kk : ∀ h', Rf E m F (uA A 13 i x) h' → fR m h h' → Ev E M d pc' ls st h' sz k n Q) : Ev E M d pc ls (.int x :: .int (nI i) :: .ref (m + 14) :: st) h sz k n Q :=
  ev_iast hd hM.a13 hi (by decide) (kk _ (hM.putA (j := 13) (by decide) x).1 (hM.putA (j := 13) (by decide) x).2)
theorem rf_st14 {i : Nat} {x : Int32} (hd : ev_d M pc .bastore 1 pc') (hM : Rf E m F A h) (hi : i < 4) (hx : narrow .boolean (.int x) = .int x) (kk : ∀ h', Rf E m F (uA A 14 i x) h' → fR m h h' → Ev E M d pc' ls st h' sz k n Q) : Ev E M d pc ls (.int x :: .int (nI i) :: .ref (m + 15) :: st) h sz k n Q :=
  ev_zast hd hM.a14 hi (by decide) hx (kk _ (hM.putA (j := 14) (by decide) x).1 (hM.putA (j := 14) (by decide) x).2)
theorem rf_st15 {i : Nat} {x : Int32} (hd : ev_d M pc .iastore 1 pc') (hM : Rf E m F A h) (hi : i < 4) (kk : ∀ h', Rf E m F (uA A 15 i x) h' → fR m h h' → Ev E M d pc' ls st h' sz k n Q) : Ev E M d pc ls (.int x :: .int (nI i) :: .ref (m + 16) :: st) h sz k n Q :=
  ev_iast hd hM.a15 hi (by decide) (kk _ (hM.putA (j := 15) (by decide) x).1 (hM.putA (j := 15) (by decide) x).2)
theorem rf_st16 {i : Nat} {x : Int32} (hd : ev_d M pc .bastore 1 pc') (hM : Rf E m F A h) (hi : i < 480) (hx : narrow .boolean (.int x) = .int x) (kk : ∀ h', Rf E m F (uA A 16 i x) h' → fR m h h' → Ev E M d pc' ls st h' sz k n Q) : Ev E M d pc ls (.int x :: .int (nI i) :: .ref (m + 17) :: st) h sz k n Q :=
  ev_zast hd hM.a16 hi (by decide) hx (kk _ (hM.putA (j := 16) (by decide) x).1 (hM.putA (j := 16) (by decide) x).2)
theorem rf_st17 {i : Nat} {x : Int32} (hd : ev_d M pc .bastore 1 pc') (hM : Rf E m F A h) (hi : i < 120) (hx : narrow .boolean (.int x) = .int x) (kk : ∀ h', Rf E m F (uA A 17 i x) h' → fR m h h' → Ev E M d pc' ls st h' sz k n Q) : Ev E M d pc ls (.int x :: .int (nI i) :: .ref (m + 18) :: st) h sz k n Q :=
  ev_zast hd hM.a17 hi (by decide) hx (kk _ (hM.putA (j := 17) (by decide) x).1 (hM.putA (j := 17) (by decide) x).2)
theorem rf_st18 {i : Nat} {x : Int32} (hd : ev_d M pc .iastore 1 pc') (hM : Rf E m F A h) (hi : i < 120) (kk : ∀ h', Rf E m F (uA A 18 i x) h' → fR m h h' → Ev E M d pc' ls st h' sz k n Q) : Ev E M d pc ls (.int x :: .int (nI i) :: .ref (m + 19) :: st) h sz k n Q :=
  ev_iast hd hM.a18 hi (by decide) (kk _ (hM.putA (j := 18) (by decide) x).1 (hM.putA (j := 18) (by decide) x).2)
theorem rf_st19 {i : Nat} {x : Int32} (hd : ev_d M pc .iastore 1 pc') (hM : Rf E m F A h) (hi : i < 24) (kk : ∀ h', Rf E m F (uA A 19 i x) h' → fR m h h' → Ev E M d pc' ls st h' sz k n Q) : Ev E M d pc ls (.int x :: .int (nI i) :: .ref (m + 20) :: st) h sz k n Q :=
  ev_iast hd hM.a19 hi (by decide) (kk _ (hM.putA (j := 19) (by decide) x).1 (hM.putA (j := 19) (by decide) x).2)
theorem rf_st20 {i : Nat} {x : Int32} (hd : ev_d M pc .iastore 1 pc') (hM : Rf E m F A h) (hi : i < 100) (kk : ∀ h', Rf E m F (uA A 20 i x) h' → fR m h h' → Ev E M d pc' ls st h' sz k n Q) : Ev E M d pc ls (.int x :: .int (nI i) :: .ref (m + 21) :: st) h sz k n Q :=
  ev_iast hd hM.a20 hi (by decide) (kk _ (hM.putA (j := 20) (by decide) x).1 (hM.putA (j := 20) (by decide) x).2)
theorem rf_st21 {i : Nat} {x : Int32} (hd : ev_d M pc .iastore 1 pc') (hM : Rf E m F A h) (hi : i < 100) (kk : ∀ h', Rf E m F (uA A 21 i x) h' → fR m h h' → Ev E M d pc' ls st h' sz k n Q) : Ev E M d pc ls (.int x :: .int (nI i) :: .ref (m + 22) :: st) h sz k n Q :=
  ev_iast hd hM.a21 hi (by decide) (kk _ (hM.putA (j := 21) (by decide) x).1 (hM.putA (j := 21) (by decide) x).2)
theorem rf_st22 {i : Nat} {x : Int32} (hd : ev_d M pc .iastore 1 pc') (hM : Rf E m F A h) (hi : i < 100) (kk : ∀ h', Rf E m F (uA A 22 i x) h' → fR m h h' → Ev E M d pc' ls st h' sz k n Q) : Ev E M d pc ls (.int x :: .int (nI i) :: .ref (m + 23) :: st) h sz k n Q :=
  ev_iast hd hM.a22 hi (by decide) (kk _ (hM.putA (j := 22) (by decide) x).1 (hM.putA (j := 22) (by decide) x).2)
theorem rf_st23 {i : Nat} {x : Int32} (hd : ev_d M pc .iastore 1 pc') (hM : Rf E m F A h) (hi : i < 100) (kk : ∀ h', Rf E m F (uA A 23 i x) h' → fR m h h' → Ev E M d pc' ls st h' sz k n Q) : Ev E M d pc ls (.int x :: .int (nI i) :: .ref (m + 24) :: st) h sz k n Q :=
  ev_iast hd hM.a23 hi (by decide) (kk _ (hM.putA (j := 23) (by decide) x).1 (hM.putA (j := 23) (by decide) x).2)
theorem rf_st24 {i : Nat} {x : Int32} (hd : ev_d M pc .iastore 1 pc') (hM : Rf E m F A h) (hi : i < 100) (kk : ∀ h', Rf E m F (uA A 24 i x) h' → fR m h h' → Ev E M d pc' ls st h' sz k n Q) : Ev E M d pc ls (.int x :: .int (nI i) :: .ref (m + 25) :: st) h sz k n Q :=
  ev_iast hd hM.a24 hi (by decide) (kk _ (hM.putA (j := 24) (by decide) x).1 (hM.putA (j := 24) (by decide) x).2)
theorem rf_st25 {i : Nat} {x : Int32} (hd : ev_d M pc .iastore 1 pc') (hM : Rf E m F A h) (hi : i < 24) (kk : ∀ h', Rf E m F (uA A 25 i x) h' → fR m h h' → Ev E M d pc' ls st h' sz k n Q) : Ev E M d pc ls (.int x :: .int (nI i) :: .ref (m + 26) :: st) h sz k n Q :=
  ev_iast hd hM.a25 hi (by decide) (kk _ (hM.putA (j := 25) (by decide) x).1 (hM.putA (j := 25) (by decide) x).2)
theorem rf_st26 {i : Nat} {x : Int32} (hd : ev_d M pc .iastore 1 pc') (hM : Rf E m F A h) (hi : i < 200) (kk : ∀ h', Rf E m F (uA A 26 i x) h' → fR m h h' → Ev E M d pc' ls st h' sz k n Q) : Ev E M d pc ls (.int x :: .int (nI i) :: .ref (m + 27) :: st) h sz k n Q :=
  ev_iast hd hM.a26 hi (by decide) (kk _ (hM.putA (j := 26) (by decide) x).1 (hM.putA (j := 26) (by decide) x).2)
theorem rf_st27 {i : Nat} {x : Int32} (hd : ev_d M pc .iastore 1 pc') (hM : Rf E m F A h) (hi : i < 100) (kk : ∀ h', Rf E m F (uA A 27 i x) h' → fR m h h' → Ev E M d pc' ls st h' sz k n Q) : Ev E M d pc ls (.int x :: .int (nI i) :: .ref (m + 28) :: st) h sz k n Q :=
  ev_iast hd hM.a27 hi (by decide) (kk _ (hM.putA (j := 27) (by decide) x).1 (hM.putA (j := 27) (by decide) x).2)
theorem rf_pt0 {y : Nat} (hd : ev_d M pc (.putfield 95) 3 pc') (ho : M.1.cls = "PreferTableModel") (hM : Rf E m F A h) (kk : ∀ h', Rf E m (uF F 0 y) A h' → fR m h h' → Ev E M d pc' ls st h' sz k n Q) : Ev E M d pc ls (.int (nI y) :: .ref m :: st) h sz k n Q :=
  ev_put (rf_fs m (uF F 0 y)) hd (by rw [ho]; exact p_Md_95_10) hM.1 rfl rfl rfl rfl (kk _ (hM.putF 0 y).1 (hM.putF 0 y).2)
theorem rf_pt1 {y : Nat} (hd : ev_d M pc (.putfield 99) 3 pc') (ho : M.1.cls = "PreferTableModel") (hM : Rf E m F A h) (kk : ∀ h', Rf E m (uF F 1 y) A h' → fR m h h' → Ev E M d pc' ls st h' sz k n Q) : Ev E M d pc ls (.int (nI y) :: .ref m :: st) h sz k n Q :=
  ev_put (rf_fs m (uF F 1 y)) hd (by rw [ho]; exact p_Md_99_10) hM.1 rfl rfl rfl rfl (kk _ (hM.putF 1 y).1 (hM.putF 1 y).2)
theorem rf_pt2 {y : Nat} (hd : ev_d M pc (.putfield 102) 3 pc') (ho : M.1.cls = "PreferTableModel") (hM : Rf E m F A h) (kk : ∀ h', Rf E m (uF F 2 y) A h' → fR m h h' → Ev E M d pc' ls st h' sz k n Q) : Ev E M d pc ls (.int (nI y) :: .ref m :: st) h sz k n Q :=
  ev_put (rf_fs m (uF F 2 y)) hd (by rw [ho]; exact p_Md_102_10) hM.1 rfl rfl rfl rfl (kk _ (hM.putF 2 y).1 (hM.putF 2 y).2)
theorem rf_pt3 {y : Nat} (hd : ev_d M pc (.putfield 163) 3 pc') (ho : M.1.cls = "PreferTableModel") (hM : Rf E m F A h) (kk : ∀ h', Rf E m (uF F 3 y) A h' → fR m h h' → Ev E M d pc' ls st h' sz k n Q) : Ev E M d pc ls (.int (nI y) :: .ref m :: st) h sz k n Q :=
  ev_put (rf_fs m (uF F 3 y)) hd (by rw [ho]; exact p_Md_163_10) hM.1 rfl rfl rfl rfl (kk _ (hM.putF 3 y).1 (hM.putF 3 y).2)
theorem rf_pt4 {y : Nat} (hd : ev_d M pc (.putfield 180) 3 pc') (ho : M.1.cls = "PreferTableModel") (hM : Rf E m F A h) (kk : ∀ h', Rf E m (uF F 4 y) A h' → fR m h h' → Ev E M d pc' ls st h' sz k n Q) : Ev E M d pc ls (.int (nI y) :: .ref m :: st) h sz k n Q :=
  ev_put (rf_fs m (uF F 4 y)) hd (by rw [ho]; exact p_Md_180_10) hM.1 rfl rfl rfl rfl (kk _ (hM.putF 4 y).1 (hM.putF 4 y).2)
theorem rf_pt5 {y : Nat} (hd : ev_d M pc (.putfield 190) 3 pc') (ho : M.1.cls = "PreferTableModel") (hM : Rf E m F A h) (kk : ∀ h', Rf E m (uF F 5 y) A h' → fR m h h' → Ev E M d pc' ls st h' sz k n Q) : Ev E M d pc ls (.int (nI y) :: .ref m :: st) h sz k n Q :=
  ev_put (rf_fs m (uF F 5 y)) hd (by rw [ho]; exact p_Md_190_10) hM.1 rfl rfl rfl rfl (kk _ (hM.putF 5 y).1 (hM.putF 5 y).2)
end RFE
