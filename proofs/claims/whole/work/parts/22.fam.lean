/-! Ev: one rule an instruction: loads, stores, constants, arithmetic, branches (written by gen_fam.py). -/
section EVF
variable {E : ev_E} {M : ev_M} {d pc pc' : Nat} {ls r : List (Option Value)} {st : List Value} {h : ev_h} {sz k n : Nat} {Q : ev_Q}
theorem ev_iload_0 {x : Int32} (hd : ev_d M pc (.iload_n 0) 1 pc') (kk : Ev E M d pc' (some (.int x) :: r) (.int x :: st) h sz k n Q) : Ev E M d pc (some (.int x) :: r) st h sz k n Q := by
  obtain ⟨hd, rfl⟩ := hd
  exact ev_pure (fun hx hb hL kw => lv_iload_n hx hb hd rfl (hL.2.2 0 _ rfl) kw) kk
theorem ev_iload_1 {v0 : Option Value} {x : Int32} (hd : ev_d M pc (.iload_n 1) 1 pc') (kk : Ev E M d pc' (v0 :: some (.int x) :: r) (.int x :: st) h sz k n Q) : Ev E M d pc (v0 :: some (.int x) :: r) st h sz k n Q := by
  obtain ⟨hd, rfl⟩ := hd
  exact ev_pure (fun hx hb hL kw => lv_iload_n hx hb hd rfl (hL.2.2 1 _ rfl) kw) kk
theorem ev_iload_2 {v0 v1 : Option Value} {x : Int32} (hd : ev_d M pc (.iload_n 2) 1 pc') (kk : Ev E M d pc' (v0 :: v1 :: some (.int x) :: r) (.int x :: st) h sz k n Q) : Ev E M d pc (v0 :: v1 :: some (.int x) :: r) st h sz k n Q := by
  obtain ⟨hd, rfl⟩ := hd
  exact ev_pure (fun hx hb hL kw => lv_iload_n hx hb hd rfl (hL.2.2 2 _ rfl) kw) kk
theorem ev_iload_3 {v0 v1 v2 : Option Value} {x : Int32} (hd : ev_d M pc (.iload_n 3) 1 pc') (kk : Ev E M d pc' (v0 :: v1 :: v2 :: some (.int x) :: r) (.int x :: st) h sz k n Q) : Ev E M d pc (v0 :: v1 :: v2 :: some (.int x) :: r) st h sz k n Q := by
  obtain ⟨hd, rfl⟩ := hd
  exact ev_pure (fun hx hb hL kw => lv_iload_n hx hb hd rfl (hL.2.2 3 _ rfl) kw) kk
theorem ev_iload_4 {v0 v1 v2 v3 : Option Value} {x : Int32} (hd : ev_d M pc (.iload 4) 2 pc') (kk : Ev E M d pc' (v0 :: v1 :: v2 :: v3 :: some (.int x) :: r) (.int x :: st) h sz k n Q) : Ev E M d pc (v0 :: v1 :: v2 :: v3 :: some (.int x) :: r) st h sz k n Q := by
  obtain ⟨hd, rfl⟩ := hd
  exact ev_pure (fun hx hb hL kw => lv_iload hx hb hd (hL.2.2 4 _ rfl) kw) kk
theorem ev_iload_5 {v0 v1 v2 v3 v4 : Option Value} {x : Int32} (hd : ev_d M pc (.iload 5) 2 pc') (kk : Ev E M d pc' (v0 :: v1 :: v2 :: v3 :: v4 :: some (.int x) :: r) (.int x :: st) h sz k n Q) : Ev E M d pc (v0 :: v1 :: v2 :: v3 :: v4 :: some (.int x) :: r) st h sz k n Q := by
  obtain ⟨hd, rfl⟩ := hd
  exact ev_pure (fun hx hb hL kw => lv_iload hx hb hd (hL.2.2 5 _ rfl) kw) kk
theorem ev_iload_6 {v0 v1 v2 v3 v4 v5 : Option Value} {x : Int32} (hd : ev_d M pc (.iload 6) 2 pc') (kk : Ev E M d pc' (v0 :: v1 :: v2 :: v3 :: v4 :: v5 :: some (.int x) :: r) (.int x :: st) h sz k n Q) : Ev E M d pc (v0 :: v1 :: v2 :: v3 :: v4 :: v5 :: some (.int x) :: r) st h sz k n Q := by
  obtain ⟨hd, rfl⟩ := hd
  exact ev_pure (fun hx hb hL kw => lv_iload hx hb hd (hL.2.2 6 _ rfl) kw) kk
theorem ev_iload_7 {v0 v1 v2 v3 v4 v5 v6 : Option Value} {x : Int32} (hd : ev_d M pc (.iload 7) 2 pc') (kk : Ev E M d pc' (v0 :: v1 :: v2 :: v3 :: v4 :: v5 :: v6 :: some (.int x) :: r) (.int x :: st) h sz k n Q) : Ev E M d pc (v0 :: v1 :: v2 :: v3 :: v4 :: v5 :: v6 :: some (.int x) :: r) st h sz k n Q := by
  obtain ⟨hd, rfl⟩ := hd
  exact ev_pure (fun hx hb hL kw => lv_iload hx hb hd (hL.2.2 7 _ rfl) kw) kk
theorem ev_iload_8 {v0 v1 v2 v3 v4 v5 v6 v7 : Option Value} {x : Int32} (hd : ev_d M pc (.iload 8) 2 pc') (kk : Ev E M d pc' (v0 :: v1 :: v2 :: v3 :: v4 :: v5 :: v6 :: v7 :: some (.int x) :: r) (.int x :: st) h sz k n Q) : Ev E M d pc (v0 :: v1 :: v2 :: v3 :: v4 :: v5 :: v6 :: v7 :: some (.int x) :: r) st h sz k n Q := by
  obtain ⟨hd, rfl⟩ := hd
  exact ev_pure (fun hx hb hL kw => lv_iload hx hb hd (hL.2.2 8 _ rfl) kw) kk
theorem ev_iload_9 {v0 v1 v2 v3 v4 v5 v6 v7 v8 : Option Value} {x : Int32} (hd : ev_d M pc (.iload 9) 2 pc') (kk : Ev E M d pc' (v0 :: v1 :: v2 :: v3 :: v4 :: v5 :: v6 :: v7 :: v8 :: some (.int x) :: r) (.int x :: st) h sz k n Q) : Ev E M d pc (v0 :: v1 :: v2 :: v3 :: v4 :: v5 :: v6 :: v7 :: v8 :: some (.int x) :: r) st h sz k n Q := by
  obtain ⟨hd, rfl⟩ := hd
  exact ev_pure (fun hx hb hL kw => lv_iload hx hb hd (hL.2.2 9 _ rfl) kw) kk
theorem ev_iload_10 {v0 v1 v2 v3 v4 v5 v6 v7 v8 v9 : Option Value} {x : Int32} (hd : ev_d M pc (.iload 10) 2 pc') (kk : Ev E M d pc' (v0 :: v1 :: v2 :: v3 :: v4 :: v5 :: v6 :: v7 :: v8 :: v9 :: some (.int x) :: r) (.int x :: st) h sz k n Q) : Ev E M d pc (v0 :: v1 :: v2 :: v3 :: v4 :: v5 :: v6 :: v7 :: v8 :: v9 :: some (.int x) :: r) st h sz k n Q := by
  obtain ⟨hd, rfl⟩ := hd
  exact ev_pure (fun hx hb hL kw => lv_iload hx hb hd (hL.2.2 10 _ rfl) kw) kk
theorem ev_iload_11 {v0 v1 v2 v3 v4 v5 v6 v7 v8 v9 v10 : Option Value} {x : Int32} (hd : ev_d M pc (.iload 11) 2 pc') (kk : Ev E M d pc' (v0 :: v1 :: v2 :: v3 :: v4 :: v5 :: v6 :: v7 :: v8 :: v9 :: v10 :: some (.int x) :: r) (.int x :: st) h sz k n Q) : Ev E M d pc (v0 :: v1 :: v2 :: v3 :: v4 :: v5 :: v6 :: v7 :: v8 :: v9 :: v10 :: some (.int x) :: r) st h sz k n Q := by
  obtain ⟨hd, rfl⟩ := hd
  exact ev_pure (fun hx hb hL kw => lv_iload hx hb hd (hL.2.2 11 _ rfl) kw) kk
theorem ev_iload_12 {v0 v1 v2 v3 v4 v5 v6 v7 v8 v9 v10 v11 : Option Value} {x : Int32} (hd : ev_d M pc (.iload 12) 2 pc') (kk : Ev E M d pc' (v0 :: v1 :: v2 :: v3 :: v4 :: v5 :: v6 :: v7 :: v8 :: v9 :: v10 :: v11 :: some (.int x) :: r) (.int x :: st) h sz k n Q) : Ev E M d pc (v0 :: v1 :: v2 :: v3 :: v4 :: v5 :: v6 :: v7 :: v8 :: v9 :: v10 :: v11 :: some (.int x) :: r) st h sz k n Q := by
  obtain ⟨hd, rfl⟩ := hd
  exact ev_pure (fun hx hb hL kw => lv_iload hx hb hd (hL.2.2 12 _ rfl) kw) kk
theorem ev_iload_13 {v0 v1 v2 v3 v4 v5 v6 v7 v8 v9 v10 v11 v12 : Option Value} {x : Int32} (hd : ev_d M pc (.iload 13) 2 pc') (kk : Ev E M d pc' (v0 :: v1 :: v2 :: v3 :: v4 :: v5 :: v6 :: v7 :: v8 :: v9 :: v10 :: v11 :: v12 :: some (.int x) :: r) (.int x :: st) h sz k n Q) : Ev E M d pc (v0 :: v1 :: v2 :: v3 :: v4 :: v5 :: v6 :: v7 :: v8 :: v9 :: v10 :: v11 :: v12 :: some (.int x) :: r) st h sz k n Q := by
  obtain ⟨hd, rfl⟩ := hd
  exact ev_pure (fun hx hb hL kw => lv_iload hx hb hd (hL.2.2 13 _ rfl) kw) kk
theorem ev_aload_0 {x : Nat} (hd : ev_d M pc (.aload_n 0) 1 pc') (kk : Ev E M d pc' (some (.ref x) :: r) (.ref x :: st) h sz k n Q) : Ev E M d pc (some (.ref x) :: r) st h sz k n Q := by
  obtain ⟨hd, rfl⟩ := hd
  exact ev_pure (fun hx hb hL kw => lv_aload_n hx hb hd rfl (hL.2.2 0 _ rfl) kw) kk
theorem ev_aload_1 {v0 : Option Value} {x : Nat} (hd : ev_d M pc (.aload_n 1) 1 pc') (kk : Ev E M d pc' (v0 :: some (.ref x) :: r) (.ref x :: st) h sz k n Q) : Ev E M d pc (v0 :: some (.ref x) :: r) st h sz k n Q := by
  obtain ⟨hd, rfl⟩ := hd
  exact ev_pure (fun hx hb hL kw => lv_aload_n hx hb hd rfl (hL.2.2 1 _ rfl) kw) kk
theorem ev_aload_2 {v0 v1 : Option Value} {x : Nat} (hd : ev_d M pc (.aload_n 2) 1 pc') (kk : Ev E M d pc' (v0 :: v1 :: some (.ref x) :: r) (.ref x :: st) h sz k n Q) : Ev E M d pc (v0 :: v1 :: some (.ref x) :: r) st h sz k n Q := by
  obtain ⟨hd, rfl⟩ := hd
  exact ev_pure (fun hx hb hL kw => lv_aload_n hx hb hd rfl (hL.2.2 2 _ rfl) kw) kk
theorem ev_aload_3 {v0 v1 v2 : Option Value} {x : Nat} (hd : ev_d M pc (.aload_n 3) 1 pc') (kk : Ev E M d pc' (v0 :: v1 :: v2 :: some (.ref x) :: r) (.ref x :: st) h sz k n Q) : Ev E M d pc (v0 :: v1 :: v2 :: some (.ref x) :: r) st h sz k n Q := by
  obtain ⟨hd, rfl⟩ := hd
  exact ev_pure (fun hx hb hL kw => lv_aload_n hx hb hd rfl (hL.2.2 3 _ rfl) kw) kk
theorem ev_aload_4 {v0 v1 v2 v3 : Option Value} {x : Nat} (hd : ev_d M pc (.aload 4) 2 pc') (kk : Ev E M d pc' (v0 :: v1 :: v2 :: v3 :: some (.ref x) :: r) (.ref x :: st) h sz k n Q) : Ev E M d pc (v0 :: v1 :: v2 :: v3 :: some (.ref x) :: r) st h sz k n Q := by
  obtain ⟨hd, rfl⟩ := hd
  exact ev_pure (fun hx hb hL kw => lv_aload hx hb hd (hL.2.2 4 _ rfl) kw) kk
theorem ev_aload_5 {v0 v1 v2 v3 v4 : Option Value} {x : Nat} (hd : ev_d M pc (.aload 5) 2 pc') (kk : Ev E M d pc' (v0 :: v1 :: v2 :: v3 :: v4 :: some (.ref x) :: r) (.ref x :: st) h sz k n Q) : Ev E M d pc (v0 :: v1 :: v2 :: v3 :: v4 :: some (.ref x) :: r) st h sz k n Q := by
  obtain ⟨hd, rfl⟩ := hd
  exact ev_pure (fun hx hb hL kw => lv_aload hx hb hd (hL.2.2 5 _ rfl) kw) kk
theorem ev_aload_6 {v0 v1 v2 v3 v4 v5 : Option Value} {x : Nat} (hd : ev_d M pc (.aload 6) 2 pc') (kk : Ev E M d pc' (v0 :: v1 :: v2 :: v3 :: v4 :: v5 :: some (.ref x) :: r) (.ref x :: st) h sz k n Q) : Ev E M d pc (v0 :: v1 :: v2 :: v3 :: v4 :: v5 :: some (.ref x) :: r) st h sz k n Q := by
  obtain ⟨hd, rfl⟩ := hd
  exact ev_pure (fun hx hb hL kw => lv_aload hx hb hd (hL.2.2 6 _ rfl) kw) kk
theorem ev_aload_7 {v0 v1 v2 v3 v4 v5 v6 : Option Value} {x : Nat} (hd : ev_d M pc (.aload 7) 2 pc') (kk : Ev E M d pc' (v0 :: v1 :: v2 :: v3 :: v4 :: v5 :: v6 :: some (.ref x) :: r) (.ref x :: st) h sz k n Q) : Ev E M d pc (v0 :: v1 :: v2 :: v3 :: v4 :: v5 :: v6 :: some (.ref x) :: r) st h sz k n Q := by
  obtain ⟨hd, rfl⟩ := hd
  exact ev_pure (fun hx hb hL kw => lv_aload hx hb hd (hL.2.2 7 _ rfl) kw) kk
theorem ev_aload_8 {v0 v1 v2 v3 v4 v5 v6 v7 : Option Value} {x : Nat} (hd : ev_d M pc (.aload 8) 2 pc') (kk : Ev E M d pc' (v0 :: v1 :: v2 :: v3 :: v4 :: v5 :: v6 :: v7 :: some (.ref x) :: r) (.ref x :: st) h sz k n Q) : Ev E M d pc (v0 :: v1 :: v2 :: v3 :: v4 :: v5 :: v6 :: v7 :: some (.ref x) :: r) st h sz k n Q := by
  obtain ⟨hd, rfl⟩ := hd
  exact ev_pure (fun hx hb hL kw => lv_aload hx hb hd (hL.2.2 8 _ rfl) kw) kk
theorem ev_aload_9 {v0 v1 v2 v3 v4 v5 v6 v7 v8 : Option Value} {x : Nat} (hd : ev_d M pc (.aload 9) 2 pc') (kk : Ev E M d pc' (v0 :: v1 :: v2 :: v3 :: v4 :: v5 :: v6 :: v7 :: v8 :: some (.ref x) :: r) (.ref x :: st) h sz k n Q) : Ev E M d pc (v0 :: v1 :: v2 :: v3 :: v4 :: v5 :: v6 :: v7 :: v8 :: some (.ref x) :: r) st h sz k n Q := by
  obtain ⟨hd, rfl⟩ := hd
  exact ev_pure (fun hx hb hL kw => lv_aload hx hb hd (hL.2.2 9 _ rfl) kw) kk
theorem ev_aload_10 {v0 v1 v2 v3 v4 v5 v6 v7 v8 v9 : Option Value} {x : Nat} (hd : ev_d M pc (.aload 10) 2 pc') (kk : Ev E M d pc' (v0 :: v1 :: v2 :: v3 :: v4 :: v5 :: v6 :: v7 :: v8 :: v9 :: some (.ref x) :: r) (.ref x :: st) h sz k n Q) : Ev E M d pc (v0 :: v1 :: v2 :: v3 :: v4 :: v5 :: v6 :: v7 :: v8 :: v9 :: some (.ref x) :: r) st h sz k n Q := by
  obtain ⟨hd, rfl⟩ := hd
  exact ev_pure (fun hx hb hL kw => lv_aload hx hb hd (hL.2.2 10 _ rfl) kw) kk
theorem ev_aload_11 {v0 v1 v2 v3 v4 v5 v6 v7 v8 v9 v10 : Option Value} {x : Nat} (hd : ev_d M pc (.aload 11) 2 pc') (kk : Ev E M d pc' (v0 :: v1 :: v2 :: v3 :: v4 :: v5 :: v6 :: v7 :: v8 :: v9 :: v10 :: some (.ref x) :: r) (.ref x :: st) h sz k n Q) : Ev E M d pc (v0 :: v1 :: v2 :: v3 :: v4 :: v5 :: v6 :: v7 :: v8 :: v9 :: v10 :: some (.ref x) :: r) st h sz k n Q := by
  obtain ⟨hd, rfl⟩ := hd
  exact ev_pure (fun hx hb hL kw => lv_aload hx hb hd (hL.2.2 11 _ rfl) kw) kk
theorem ev_aload_12 {v0 v1 v2 v3 v4 v5 v6 v7 v8 v9 v10 v11 : Option Value} {x : Nat} (hd : ev_d M pc (.aload 12) 2 pc') (kk : Ev E M d pc' (v0 :: v1 :: v2 :: v3 :: v4 :: v5 :: v6 :: v7 :: v8 :: v9 :: v10 :: v11 :: some (.ref x) :: r) (.ref x :: st) h sz k n Q) : Ev E M d pc (v0 :: v1 :: v2 :: v3 :: v4 :: v5 :: v6 :: v7 :: v8 :: v9 :: v10 :: v11 :: some (.ref x) :: r) st h sz k n Q := by
  obtain ⟨hd, rfl⟩ := hd
  exact ev_pure (fun hx hb hL kw => lv_aload hx hb hd (hL.2.2 12 _ rfl) kw) kk
theorem ev_aload_13 {v0 v1 v2 v3 v4 v5 v6 v7 v8 v9 v10 v11 v12 : Option Value} {x : Nat} (hd : ev_d M pc (.aload 13) 2 pc') (kk : Ev E M d pc' (v0 :: v1 :: v2 :: v3 :: v4 :: v5 :: v6 :: v7 :: v8 :: v9 :: v10 :: v11 :: v12 :: some (.ref x) :: r) (.ref x :: st) h sz k n Q) : Ev E M d pc (v0 :: v1 :: v2 :: v3 :: v4 :: v5 :: v6 :: v7 :: v8 :: v9 :: v10 :: v11 :: v12 :: some (.ref x) :: r) st h sz k n Q := by
  obtain ⟨hd, rfl⟩ := hd
  exact ev_pure (fun hx hb hL kw => lv_aload hx hb hd (hL.2.2 13 _ rfl) kw) kk
theorem ev_aNload_0 (hd : ev_d M pc (.aload_n 0) 1 pc') (kk : Ev E M d pc' (some (.null) :: r) (.null :: st) h sz k n Q) : Ev E M d pc (some (.null) :: r) st h sz k n Q := by
  obtain ⟨hd, rfl⟩ := hd
  exact ev_pure (fun hx hb hL kw => lv_aload_nN hx hb hd rfl (hL.2.2 0 _ rfl) kw) kk
theorem ev_aNload_1 {v0 : Option Value} (hd : ev_d M pc (.aload_n 1) 1 pc') (kk : Ev E M d pc' (v0 :: some (.null) :: r) (.null :: st) h sz k n Q) : Ev E M d pc (v0 :: some (.null) :: r) st h sz k n Q := by
  obtain ⟨hd, rfl⟩ := hd
  exact ev_pure (fun hx hb hL kw => lv_aload_nN hx hb hd rfl (hL.2.2 1 _ rfl) kw) kk
theorem ev_aNload_2 {v0 v1 : Option Value} (hd : ev_d M pc (.aload_n 2) 1 pc') (kk : Ev E M d pc' (v0 :: v1 :: some (.null) :: r) (.null :: st) h sz k n Q) : Ev E M d pc (v0 :: v1 :: some (.null) :: r) st h sz k n Q := by
  obtain ⟨hd, rfl⟩ := hd
  exact ev_pure (fun hx hb hL kw => lv_aload_nN hx hb hd rfl (hL.2.2 2 _ rfl) kw) kk
theorem ev_aNload_3 {v0 v1 v2 : Option Value} (hd : ev_d M pc (.aload_n 3) 1 pc') (kk : Ev E M d pc' (v0 :: v1 :: v2 :: some (.null) :: r) (.null :: st) h sz k n Q) : Ev E M d pc (v0 :: v1 :: v2 :: some (.null) :: r) st h sz k n Q := by
  obtain ⟨hd, rfl⟩ := hd
  exact ev_pure (fun hx hb hL kw => lv_aload_nN hx hb hd rfl (hL.2.2 3 _ rfl) kw) kk
theorem ev_aNload_4 {v0 v1 v2 v3 : Option Value} (hd : ev_d M pc (.aload 4) 2 pc') (kk : Ev E M d pc' (v0 :: v1 :: v2 :: v3 :: some (.null) :: r) (.null :: st) h sz k n Q) : Ev E M d pc (v0 :: v1 :: v2 :: v3 :: some (.null) :: r) st h sz k n Q := by
  obtain ⟨hd, rfl⟩ := hd
  exact ev_pure (fun hx hb hL kw => lv_aloadN hx hb hd (hL.2.2 4 _ rfl) kw) kk
theorem ev_aNload_5 {v0 v1 v2 v3 v4 : Option Value} (hd : ev_d M pc (.aload 5) 2 pc') (kk : Ev E M d pc' (v0 :: v1 :: v2 :: v3 :: v4 :: some (.null) :: r) (.null :: st) h sz k n Q) : Ev E M d pc (v0 :: v1 :: v2 :: v3 :: v4 :: some (.null) :: r) st h sz k n Q := by
  obtain ⟨hd, rfl⟩ := hd
  exact ev_pure (fun hx hb hL kw => lv_aloadN hx hb hd (hL.2.2 5 _ rfl) kw) kk
theorem ev_lload_0 {x : Int64} (hd : ev_d M pc (.lload_n 0) 1 pc') (kk : Ev E M d pc' (some (.long x) :: r) (.long x :: st) h sz k n Q) : Ev E M d pc (some (.long x) :: r) st h sz k n Q := by
  obtain ⟨hd, rfl⟩ := hd
  exact ev_pure (fun hx hb hL kw => lv_lload_n hx hb hd rfl (hL.2.2 0 _ rfl) kw) kk
theorem ev_lload_1 {v0 : Option Value} {x : Int64} (hd : ev_d M pc (.lload_n 1) 1 pc') (kk : Ev E M d pc' (v0 :: some (.long x) :: r) (.long x :: st) h sz k n Q) : Ev E M d pc (v0 :: some (.long x) :: r) st h sz k n Q := by
  obtain ⟨hd, rfl⟩ := hd
  exact ev_pure (fun hx hb hL kw => lv_lload_n hx hb hd rfl (hL.2.2 1 _ rfl) kw) kk
theorem ev_lload_2 {v0 v1 : Option Value} {x : Int64} (hd : ev_d M pc (.lload_n 2) 1 pc') (kk : Ev E M d pc' (v0 :: v1 :: some (.long x) :: r) (.long x :: st) h sz k n Q) : Ev E M d pc (v0 :: v1 :: some (.long x) :: r) st h sz k n Q := by
  obtain ⟨hd, rfl⟩ := hd
  exact ev_pure (fun hx hb hL kw => lv_lload_n hx hb hd rfl (hL.2.2 2 _ rfl) kw) kk
theorem ev_lload_3 {v0 v1 v2 : Option Value} {x : Int64} (hd : ev_d M pc (.lload_n 3) 1 pc') (kk : Ev E M d pc' (v0 :: v1 :: v2 :: some (.long x) :: r) (.long x :: st) h sz k n Q) : Ev E M d pc (v0 :: v1 :: v2 :: some (.long x) :: r) st h sz k n Q := by
  obtain ⟨hd, rfl⟩ := hd
  exact ev_pure (fun hx hb hL kw => lv_lload_n hx hb hd rfl (hL.2.2 3 _ rfl) kw) kk
theorem ev_lload_4 {v0 v1 v2 v3 : Option Value} {x : Int64} (hd : ev_d M pc (.lload 4) 2 pc') (kk : Ev E M d pc' (v0 :: v1 :: v2 :: v3 :: some (.long x) :: r) (.long x :: st) h sz k n Q) : Ev E M d pc (v0 :: v1 :: v2 :: v3 :: some (.long x) :: r) st h sz k n Q := by
  obtain ⟨hd, rfl⟩ := hd
  exact ev_pure (fun hx hb hL kw => lv_lload hx hb hd (hL.2.2 4 _ rfl) kw) kk
theorem ev_lload_5 {v0 v1 v2 v3 v4 : Option Value} {x : Int64} (hd : ev_d M pc (.lload 5) 2 pc') (kk : Ev E M d pc' (v0 :: v1 :: v2 :: v3 :: v4 :: some (.long x) :: r) (.long x :: st) h sz k n Q) : Ev E M d pc (v0 :: v1 :: v2 :: v3 :: v4 :: some (.long x) :: r) st h sz k n Q := by
  obtain ⟨hd, rfl⟩ := hd
  exact ev_pure (fun hx hb hL kw => lv_lload hx hb hd (hL.2.2 5 _ rfl) kw) kk
theorem ev_lload_6 {v0 v1 v2 v3 v4 v5 : Option Value} {x : Int64} (hd : ev_d M pc (.lload 6) 2 pc') (kk : Ev E M d pc' (v0 :: v1 :: v2 :: v3 :: v4 :: v5 :: some (.long x) :: r) (.long x :: st) h sz k n Q) : Ev E M d pc (v0 :: v1 :: v2 :: v3 :: v4 :: v5 :: some (.long x) :: r) st h sz k n Q := by
  obtain ⟨hd, rfl⟩ := hd
  exact ev_pure (fun hx hb hL kw => lv_lload hx hb hd (hL.2.2 6 _ rfl) kw) kk
theorem ev_lload_7 {v0 v1 v2 v3 v4 v5 v6 : Option Value} {x : Int64} (hd : ev_d M pc (.lload 7) 2 pc') (kk : Ev E M d pc' (v0 :: v1 :: v2 :: v3 :: v4 :: v5 :: v6 :: some (.long x) :: r) (.long x :: st) h sz k n Q) : Ev E M d pc (v0 :: v1 :: v2 :: v3 :: v4 :: v5 :: v6 :: some (.long x) :: r) st h sz k n Q := by
  obtain ⟨hd, rfl⟩ := hd
  exact ev_pure (fun hx hb hL kw => lv_lload hx hb hd (hL.2.2 7 _ rfl) kw) kk
theorem ev_istore_0 {v0 : Option Value} {x : Int32} (hd : ev_d M pc (.istore_n 0) 1 pc') (hn : 0 < M.2.2.1) (kk : Ev E M d pc' (some (.int x) :: r) st h sz k n Q) : Ev E M d pc (v0 :: r) (.int x :: st) h sz k n Q := by
  obtain ⟨hd, rfl⟩ := hd
  exact fun p e R s m args below meth c H locs cells slots lsr hC hR hL h1 h2 h3 h4 => (fun hx hb => lv_istore_n hx hb hd rfl (ev_has hL) hn rfl (fun ls' hl' => kk p e R s m args below meth c H locs cells slots ls' hC hR (ev_L_set (i := 0) (v := .int x) (ls := (v0 :: r)) hl' (fun w hw => by cases hw)) h1 h2 h3 h4)) hC.ex hC.cd
theorem ev_istore_1 {v0 v1 : Option Value} {x : Int32} (hd : ev_d M pc (.istore_n 1) 1 pc') (hn : 1 < M.2.2.1) (hp : ev_c1 v0 = true) (kk : Ev E M d pc' (v0 :: some (.int x) :: r) st h sz k n Q) : Ev E M d pc (v0 :: v1 :: r) (.int x :: st) h sz k n Q := by
  obtain ⟨hd, rfl⟩ := hd
  exact fun p e R s m args below meth c H locs cells slots lsr hC hR hL h1 h2 h3 h4 => (fun hx hb => lv_istore_n hx hb hd rfl (ev_has hL) hn rfl (fun ls' hl' => kk p e R s m args below meth c H locs cells slots ls' hC hR (ev_L_set (i := 1) (v := .int x) (ls := (v0 :: v1 :: r)) hl' (fun w hw => ev_c1_of hp hw)) h1 h2 h3 h4)) hC.ex hC.cd
theorem ev_istore_2 {v0 v1 v2 : Option Value} {x : Int32} (hd : ev_d M pc (.istore_n 2) 1 pc') (hn : 2 < M.2.2.1) (hp : ev_c1 v1 = true) (kk : Ev E M d pc' (v0 :: v1 :: some (.int x) :: r) st h sz k n Q) : Ev E M d pc (v0 :: v1 :: v2 :: r) (.int x :: st) h sz k n Q := by
  obtain ⟨hd, rfl⟩ := hd
  exact fun p e R s m args below meth c H locs cells slots lsr hC hR hL h1 h2 h3 h4 => (fun hx hb => lv_istore_n hx hb hd rfl (ev_has hL) hn rfl (fun ls' hl' => kk p e R s m args below meth c H locs cells slots ls' hC hR (ev_L_set (i := 2) (v := .int x) (ls := (v0 :: v1 :: v2 :: r)) hl' (fun w hw => ev_c1_of hp hw)) h1 h2 h3 h4)) hC.ex hC.cd
theorem ev_istore_3 {v0 v1 v2 v3 : Option Value} {x : Int32} (hd : ev_d M pc (.istore_n 3) 1 pc') (hn : 3 < M.2.2.1) (hp : ev_c1 v2 = true) (kk : Ev E M d pc' (v0 :: v1 :: v2 :: some (.int x) :: r) st h sz k n Q) : Ev E M d pc (v0 :: v1 :: v2 :: v3 :: r) (.int x :: st) h sz k n Q := by
  obtain ⟨hd, rfl⟩ := hd
  exact fun p e R s m args below meth c H locs cells slots lsr hC hR hL h1 h2 h3 h4 => (fun hx hb => lv_istore_n hx hb hd rfl (ev_has hL) hn rfl (fun ls' hl' => kk p e R s m args below meth c H locs cells slots ls' hC hR (ev_L_set (i := 3) (v := .int x) (ls := (v0 :: v1 :: v2 :: v3 :: r)) hl' (fun w hw => ev_c1_of hp hw)) h1 h2 h3 h4)) hC.ex hC.cd
theorem ev_istore_4 {v0 v1 v2 v3 v4 : Option Value} {x : Int32} (hd : ev_d M pc (.istore 4) 2 pc') (hn : 4 < M.2.2.1) (hp : ev_c1 v3 = true) (kk : Ev E M d pc' (v0 :: v1 :: v2 :: v3 :: some (.int x) :: r) st h sz k n Q) : Ev E M d pc (v0 :: v1 :: v2 :: v3 :: v4 :: r) (.int x :: st) h sz k n Q := by
  obtain ⟨hd, rfl⟩ := hd
  exact fun p e R s m args below meth c H locs cells slots lsr hC hR hL h1 h2 h3 h4 => (fun hx hb => lv_istore hx hb hd (ev_has hL) hn rfl (fun ls' hl' => kk p e R s m args below meth c H locs cells slots ls' hC hR (ev_L_set (i := 4) (v := .int x) (ls := (v0 :: v1 :: v2 :: v3 :: v4 :: r)) hl' (fun w hw => ev_c1_of hp hw)) h1 h2 h3 h4)) hC.ex hC.cd
theorem ev_istore_5 {v0 v1 v2 v3 v4 v5 : Option Value} {x : Int32} (hd : ev_d M pc (.istore 5) 2 pc') (hn : 5 < M.2.2.1) (hp : ev_c1 v4 = true) (kk : Ev E M d pc' (v0 :: v1 :: v2 :: v3 :: v4 :: some (.int x) :: r) st h sz k n Q) : Ev E M d pc (v0 :: v1 :: v2 :: v3 :: v4 :: v5 :: r) (.int x :: st) h sz k n Q := by
  obtain ⟨hd, rfl⟩ := hd
  exact fun p e R s m args below meth c H locs cells slots lsr hC hR hL h1 h2 h3 h4 => (fun hx hb => lv_istore hx hb hd (ev_has hL) hn rfl (fun ls' hl' => kk p e R s m args below meth c H locs cells slots ls' hC hR (ev_L_set (i := 5) (v := .int x) (ls := (v0 :: v1 :: v2 :: v3 :: v4 :: v5 :: r)) hl' (fun w hw => ev_c1_of hp hw)) h1 h2 h3 h4)) hC.ex hC.cd
theorem ev_istore_6 {v0 v1 v2 v3 v4 v5 v6 : Option Value} {x : Int32} (hd : ev_d M pc (.istore 6) 2 pc') (hn : 6 < M.2.2.1) (hp : ev_c1 v5 = true) (kk : Ev E M d pc' (v0 :: v1 :: v2 :: v3 :: v4 :: v5 :: some (.int x) :: r) st h sz k n Q) : Ev E M d pc (v0 :: v1 :: v2 :: v3 :: v4 :: v5 :: v6 :: r) (.int x :: st) h sz k n Q := by
  obtain ⟨hd, rfl⟩ := hd
  exact fun p e R s m args below meth c H locs cells slots lsr hC hR hL h1 h2 h3 h4 => (fun hx hb => lv_istore hx hb hd (ev_has hL) hn rfl (fun ls' hl' => kk p e R s m args below meth c H locs cells slots ls' hC hR (ev_L_set (i := 6) (v := .int x) (ls := (v0 :: v1 :: v2 :: v3 :: v4 :: v5 :: v6 :: r)) hl' (fun w hw => ev_c1_of hp hw)) h1 h2 h3 h4)) hC.ex hC.cd
theorem ev_istore_7 {v0 v1 v2 v3 v4 v5 v6 v7 : Option Value} {x : Int32} (hd : ev_d M pc (.istore 7) 2 pc') (hn : 7 < M.2.2.1) (hp : ev_c1 v6 = true) (kk : Ev E M d pc' (v0 :: v1 :: v2 :: v3 :: v4 :: v5 :: v6 :: some (.int x) :: r) st h sz k n Q) : Ev E M d pc (v0 :: v1 :: v2 :: v3 :: v4 :: v5 :: v6 :: v7 :: r) (.int x :: st) h sz k n Q := by
  obtain ⟨hd, rfl⟩ := hd
  exact fun p e R s m args below meth c H locs cells slots lsr hC hR hL h1 h2 h3 h4 => (fun hx hb => lv_istore hx hb hd (ev_has hL) hn rfl (fun ls' hl' => kk p e R s m args below meth c H locs cells slots ls' hC hR (ev_L_set (i := 7) (v := .int x) (ls := (v0 :: v1 :: v2 :: v3 :: v4 :: v5 :: v6 :: v7 :: r)) hl' (fun w hw => ev_c1_of hp hw)) h1 h2 h3 h4)) hC.ex hC.cd
theorem ev_istore_8 {v0 v1 v2 v3 v4 v5 v6 v7 v8 : Option Value} {x : Int32} (hd : ev_d M pc (.istore 8) 2 pc') (hn : 8 < M.2.2.1) (hp : ev_c1 v7 = true) (kk : Ev E M d pc' (v0 :: v1 :: v2 :: v3 :: v4 :: v5 :: v6 :: v7 :: some (.int x) :: r) st h sz k n Q) : Ev E M d pc (v0 :: v1 :: v2 :: v3 :: v4 :: v5 :: v6 :: v7 :: v8 :: r) (.int x :: st) h sz k n Q := by
  obtain ⟨hd, rfl⟩ := hd
  exact fun p e R s m args below meth c H locs cells slots lsr hC hR hL h1 h2 h3 h4 => (fun hx hb => lv_istore hx hb hd (ev_has hL) hn rfl (fun ls' hl' => kk p e R s m args below meth c H locs cells slots ls' hC hR (ev_L_set (i := 8) (v := .int x) (ls := (v0 :: v1 :: v2 :: v3 :: v4 :: v5 :: v6 :: v7 :: v8 :: r)) hl' (fun w hw => ev_c1_of hp hw)) h1 h2 h3 h4)) hC.ex hC.cd
theorem ev_istore_9 {v0 v1 v2 v3 v4 v5 v6 v7 v8 v9 : Option Value} {x : Int32} (hd : ev_d M pc (.istore 9) 2 pc') (hn : 9 < M.2.2.1) (hp : ev_c1 v8 = true) (kk : Ev E M d pc' (v0 :: v1 :: v2 :: v3 :: v4 :: v5 :: v6 :: v7 :: v8 :: some (.int x) :: r) st h sz k n Q) : Ev E M d pc (v0 :: v1 :: v2 :: v3 :: v4 :: v5 :: v6 :: v7 :: v8 :: v9 :: r) (.int x :: st) h sz k n Q := by
  obtain ⟨hd, rfl⟩ := hd
  exact fun p e R s m args below meth c H locs cells slots lsr hC hR hL h1 h2 h3 h4 => (fun hx hb => lv_istore hx hb hd (ev_has hL) hn rfl (fun ls' hl' => kk p e R s m args below meth c H locs cells slots ls' hC hR (ev_L_set (i := 9) (v := .int x) (ls := (v0 :: v1 :: v2 :: v3 :: v4 :: v5 :: v6 :: v7 :: v8 :: v9 :: r)) hl' (fun w hw => ev_c1_of hp hw)) h1 h2 h3 h4)) hC.ex hC.cd
theorem ev_istore_10 {v0 v1 v2 v3 v4 v5 v6 v7 v8 v9 v10 : Option Value} {x : Int32} (hd : ev_d M pc (.istore 10) 2 pc') (hn : 10 < M.2.2.1) (hp : ev_c1 v9 = true) (kk : Ev E M d pc' (v0 :: v1 :: v2 :: v3 :: v4 :: v5 :: v6 :: v7 :: v8 :: v9 :: some (.int x) :: r) st h sz k n Q) : Ev E M d pc (v0 :: v1 :: v2 :: v3 :: v4 :: v5 :: v6 :: v7 :: v8 :: v9 :: v10 :: r) (.int x :: st) h sz k n Q := by
  obtain ⟨hd, rfl⟩ := hd
  exact fun p e R s m args below meth c H locs cells slots lsr hC hR hL h1 h2 h3 h4 => (fun hx hb => lv_istore hx hb hd (ev_has hL) hn rfl (fun ls' hl' => kk p e R s m args below meth c H locs cells slots ls' hC hR (ev_L_set (i := 10) (v := .int x) (ls := (v0 :: v1 :: v2 :: v3 :: v4 :: v5 :: v6 :: v7 :: v8 :: v9 :: v10 :: r)) hl' (fun w hw => ev_c1_of hp hw)) h1 h2 h3 h4)) hC.ex hC.cd
theorem ev_istore_11 {v0 v1 v2 v3 v4 v5 v6 v7 v8 v9 v10 v11 : Option Value} {x : Int32} (hd : ev_d M pc (.istore 11) 2 pc') (hn : 11 < M.2.2.1) (hp : ev_c1 v10 = true) (kk : Ev E M d pc' (v0 :: v1 :: v2 :: v3 :: v4 :: v5 :: v6 :: v7 :: v8 :: v9 :: v10 :: some (.int x) :: r) st h sz k n Q) : Ev E M d pc (v0 :: v1 :: v2 :: v3 :: v4 :: v5 :: v6 :: v7 :: v8 :: v9 :: v10 :: v11 :: r) (.int x :: st) h sz k n Q := by
  obtain ⟨hd, rfl⟩ := hd
  exact fun p e R s m args below meth c H locs cells slots lsr hC hR hL h1 h2 h3 h4 => (fun hx hb => lv_istore hx hb hd (ev_has hL) hn rfl (fun ls' hl' => kk p e R s m args below meth c H locs cells slots ls' hC hR (ev_L_set (i := 11) (v := .int x) (ls := (v0 :: v1 :: v2 :: v3 :: v4 :: v5 :: v6 :: v7 :: v8 :: v9 :: v10 :: v11 :: r)) hl' (fun w hw => ev_c1_of hp hw)) h1 h2 h3 h4)) hC.ex hC.cd
theorem ev_istore_12 {v0 v1 v2 v3 v4 v5 v6 v7 v8 v9 v10 v11 v12 : Option Value} {x : Int32} (hd : ev_d M pc (.istore 12) 2 pc') (hn : 12 < M.2.2.1) (hp : ev_c1 v11 = true) (kk : Ev E M d pc' (v0 :: v1 :: v2 :: v3 :: v4 :: v5 :: v6 :: v7 :: v8 :: v9 :: v10 :: v11 :: some (.int x) :: r) st h sz k n Q) : Ev E M d pc (v0 :: v1 :: v2 :: v3 :: v4 :: v5 :: v6 :: v7 :: v8 :: v9 :: v10 :: v11 :: v12 :: r) (.int x :: st) h sz k n Q := by
  obtain ⟨hd, rfl⟩ := hd
  exact fun p e R s m args below meth c H locs cells slots lsr hC hR hL h1 h2 h3 h4 => (fun hx hb => lv_istore hx hb hd (ev_has hL) hn rfl (fun ls' hl' => kk p e R s m args below meth c H locs cells slots ls' hC hR (ev_L_set (i := 12) (v := .int x) (ls := (v0 :: v1 :: v2 :: v3 :: v4 :: v5 :: v6 :: v7 :: v8 :: v9 :: v10 :: v11 :: v12 :: r)) hl' (fun w hw => ev_c1_of hp hw)) h1 h2 h3 h4)) hC.ex hC.cd
theorem ev_istore_13 {v0 v1 v2 v3 v4 v5 v6 v7 v8 v9 v10 v11 v12 v13 : Option Value} {x : Int32} (hd : ev_d M pc (.istore 13) 2 pc') (hn : 13 < M.2.2.1) (hp : ev_c1 v12 = true) (kk : Ev E M d pc' (v0 :: v1 :: v2 :: v3 :: v4 :: v5 :: v6 :: v7 :: v8 :: v9 :: v10 :: v11 :: v12 :: some (.int x) :: r) st h sz k n Q) : Ev E M d pc (v0 :: v1 :: v2 :: v3 :: v4 :: v5 :: v6 :: v7 :: v8 :: v9 :: v10 :: v11 :: v12 :: v13 :: r) (.int x :: st) h sz k n Q := by
  obtain ⟨hd, rfl⟩ := hd
  exact fun p e R s m args below meth c H locs cells slots lsr hC hR hL h1 h2 h3 h4 => (fun hx hb => lv_istore hx hb hd (ev_has hL) hn rfl (fun ls' hl' => kk p e R s m args below meth c H locs cells slots ls' hC hR (ev_L_set (i := 13) (v := .int x) (ls := (v0 :: v1 :: v2 :: v3 :: v4 :: v5 :: v6 :: v7 :: v8 :: v9 :: v10 :: v11 :: v12 :: v13 :: r)) hl' (fun w hw => ev_c1_of hp hw)) h1 h2 h3 h4)) hC.ex hC.cd
theorem ev_astore_0 {v0 : Option Value} {x : Nat} (hd : ev_d M pc (.astore_n 0) 1 pc') (hn : 0 < M.2.2.1) (kk : Ev E M d pc' (some (.ref x) :: r) st h sz k n Q) : Ev E M d pc (v0 :: r) (.ref x :: st) h sz k n Q := by
  obtain ⟨hd, rfl⟩ := hd
  exact fun p e R s m args below meth c H locs cells slots lsr hC hR hL h1 h2 h3 h4 => (fun hx hb => lv_astore_n hx hb hd rfl (ev_has hL) hn rfl (fun ls' hl' => kk p e R s m args below meth c H locs cells slots ls' hC hR (ev_L_set (i := 0) (v := .ref x) (ls := (v0 :: r)) hl' (fun w hw => by cases hw)) h1 h2 h3 h4)) hC.ex hC.cd
theorem ev_astore_1 {v0 v1 : Option Value} {x : Nat} (hd : ev_d M pc (.astore_n 1) 1 pc') (hn : 1 < M.2.2.1) (hp : ev_c1 v0 = true) (kk : Ev E M d pc' (v0 :: some (.ref x) :: r) st h sz k n Q) : Ev E M d pc (v0 :: v1 :: r) (.ref x :: st) h sz k n Q := by
  obtain ⟨hd, rfl⟩ := hd
  exact fun p e R s m args below meth c H locs cells slots lsr hC hR hL h1 h2 h3 h4 => (fun hx hb => lv_astore_n hx hb hd rfl (ev_has hL) hn rfl (fun ls' hl' => kk p e R s m args below meth c H locs cells slots ls' hC hR (ev_L_set (i := 1) (v := .ref x) (ls := (v0 :: v1 :: r)) hl' (fun w hw => ev_c1_of hp hw)) h1 h2 h3 h4)) hC.ex hC.cd
theorem ev_astore_2 {v0 v1 v2 : Option Value} {x : Nat} (hd : ev_d M pc (.astore_n 2) 1 pc') (hn : 2 < M.2.2.1) (hp : ev_c1 v1 = true) (kk : Ev E M d pc' (v0 :: v1 :: some (.ref x) :: r) st h sz k n Q) : Ev E M d pc (v0 :: v1 :: v2 :: r) (.ref x :: st) h sz k n Q := by
  obtain ⟨hd, rfl⟩ := hd
  exact fun p e R s m args below meth c H locs cells slots lsr hC hR hL h1 h2 h3 h4 => (fun hx hb => lv_astore_n hx hb hd rfl (ev_has hL) hn rfl (fun ls' hl' => kk p e R s m args below meth c H locs cells slots ls' hC hR (ev_L_set (i := 2) (v := .ref x) (ls := (v0 :: v1 :: v2 :: r)) hl' (fun w hw => ev_c1_of hp hw)) h1 h2 h3 h4)) hC.ex hC.cd
theorem ev_astore_3 {v0 v1 v2 v3 : Option Value} {x : Nat} (hd : ev_d M pc (.astore_n 3) 1 pc') (hn : 3 < M.2.2.1) (hp : ev_c1 v2 = true) (kk : Ev E M d pc' (v0 :: v1 :: v2 :: some (.ref x) :: r) st h sz k n Q) : Ev E M d pc (v0 :: v1 :: v2 :: v3 :: r) (.ref x :: st) h sz k n Q := by
  obtain ⟨hd, rfl⟩ := hd
  exact fun p e R s m args below meth c H locs cells slots lsr hC hR hL h1 h2 h3 h4 => (fun hx hb => lv_astore_n hx hb hd rfl (ev_has hL) hn rfl (fun ls' hl' => kk p e R s m args below meth c H locs cells slots ls' hC hR (ev_L_set (i := 3) (v := .ref x) (ls := (v0 :: v1 :: v2 :: v3 :: r)) hl' (fun w hw => ev_c1_of hp hw)) h1 h2 h3 h4)) hC.ex hC.cd
theorem ev_astore_4 {v0 v1 v2 v3 v4 : Option Value} {x : Nat} (hd : ev_d M pc (.astore 4) 2 pc') (hn : 4 < M.2.2.1) (hp : ev_c1 v3 = true) (kk : Ev E M d pc' (v0 :: v1 :: v2 :: v3 :: some (.ref x) :: r) st h sz k n Q) : Ev E M d pc (v0 :: v1 :: v2 :: v3 :: v4 :: r) (.ref x :: st) h sz k n Q := by
  obtain ⟨hd, rfl⟩ := hd
  exact fun p e R s m args below meth c H locs cells slots lsr hC hR hL h1 h2 h3 h4 => (fun hx hb => lv_astore hx hb hd (ev_has hL) hn rfl (fun ls' hl' => kk p e R s m args below meth c H locs cells slots ls' hC hR (ev_L_set (i := 4) (v := .ref x) (ls := (v0 :: v1 :: v2 :: v3 :: v4 :: r)) hl' (fun w hw => ev_c1_of hp hw)) h1 h2 h3 h4)) hC.ex hC.cd
theorem ev_astore_5 {v0 v1 v2 v3 v4 v5 : Option Value} {x : Nat} (hd : ev_d M pc (.astore 5) 2 pc') (hn : 5 < M.2.2.1) (hp : ev_c1 v4 = true) (kk : Ev E M d pc' (v0 :: v1 :: v2 :: v3 :: v4 :: some (.ref x) :: r) st h sz k n Q) : Ev E M d pc (v0 :: v1 :: v2 :: v3 :: v4 :: v5 :: r) (.ref x :: st) h sz k n Q := by
  obtain ⟨hd, rfl⟩ := hd
  exact fun p e R s m args below meth c H locs cells slots lsr hC hR hL h1 h2 h3 h4 => (fun hx hb => lv_astore hx hb hd (ev_has hL) hn rfl (fun ls' hl' => kk p e R s m args below meth c H locs cells slots ls' hC hR (ev_L_set (i := 5) (v := .ref x) (ls := (v0 :: v1 :: v2 :: v3 :: v4 :: v5 :: r)) hl' (fun w hw => ev_c1_of hp hw)) h1 h2 h3 h4)) hC.ex hC.cd
theorem ev_astore_6 {v0 v1 v2 v3 v4 v5 v6 : Option Value} {x : Nat} (hd : ev_d M pc (.astore 6) 2 pc') (hn : 6 < M.2.2.1) (hp : ev_c1 v5 = true) (kk : Ev E M d pc' (v0 :: v1 :: v2 :: v3 :: v4 :: v5 :: some (.ref x) :: r) st h sz k n Q) : Ev E M d pc (v0 :: v1 :: v2 :: v3 :: v4 :: v5 :: v6 :: r) (.ref x :: st) h sz k n Q := by
  obtain ⟨hd, rfl⟩ := hd
  exact fun p e R s m args below meth c H locs cells slots lsr hC hR hL h1 h2 h3 h4 => (fun hx hb => lv_astore hx hb hd (ev_has hL) hn rfl (fun ls' hl' => kk p e R s m args below meth c H locs cells slots ls' hC hR (ev_L_set (i := 6) (v := .ref x) (ls := (v0 :: v1 :: v2 :: v3 :: v4 :: v5 :: v6 :: r)) hl' (fun w hw => ev_c1_of hp hw)) h1 h2 h3 h4)) hC.ex hC.cd
theorem ev_astore_7 {v0 v1 v2 v3 v4 v5 v6 v7 : Option Value} {x : Nat} (hd : ev_d M pc (.astore 7) 2 pc') (hn : 7 < M.2.2.1) (hp : ev_c1 v6 = true) (kk : Ev E M d pc' (v0 :: v1 :: v2 :: v3 :: v4 :: v5 :: v6 :: some (.ref x) :: r) st h sz k n Q) : Ev E M d pc (v0 :: v1 :: v2 :: v3 :: v4 :: v5 :: v6 :: v7 :: r) (.ref x :: st) h sz k n Q := by
  obtain ⟨hd, rfl⟩ := hd
  exact fun p e R s m args below meth c H locs cells slots lsr hC hR hL h1 h2 h3 h4 => (fun hx hb => lv_astore hx hb hd (ev_has hL) hn rfl (fun ls' hl' => kk p e R s m args below meth c H locs cells slots ls' hC hR (ev_L_set (i := 7) (v := .ref x) (ls := (v0 :: v1 :: v2 :: v3 :: v4 :: v5 :: v6 :: v7 :: r)) hl' (fun w hw => ev_c1_of hp hw)) h1 h2 h3 h4)) hC.ex hC.cd
theorem ev_astore_8 {v0 v1 v2 v3 v4 v5 v6 v7 v8 : Option Value} {x : Nat} (hd : ev_d M pc (.astore 8) 2 pc') (hn : 8 < M.2.2.1) (hp : ev_c1 v7 = true) (kk : Ev E M d pc' (v0 :: v1 :: v2 :: v3 :: v4 :: v5 :: v6 :: v7 :: some (.ref x) :: r) st h sz k n Q) : Ev E M d pc (v0 :: v1 :: v2 :: v3 :: v4 :: v5 :: v6 :: v7 :: v8 :: r) (.ref x :: st) h sz k n Q := by
  obtain ⟨hd, rfl⟩ := hd
  exact fun p e R s m args below meth c H locs cells slots lsr hC hR hL h1 h2 h3 h4 => (fun hx hb => lv_astore hx hb hd (ev_has hL) hn rfl (fun ls' hl' => kk p e R s m args below meth c H locs cells slots ls' hC hR (ev_L_set (i := 8) (v := .ref x) (ls := (v0 :: v1 :: v2 :: v3 :: v4 :: v5 :: v6 :: v7 :: v8 :: r)) hl' (fun w hw => ev_c1_of hp hw)) h1 h2 h3 h4)) hC.ex hC.cd
theorem ev_astore_9 {v0 v1 v2 v3 v4 v5 v6 v7 v8 v9 : Option Value} {x : Nat} (hd : ev_d M pc (.astore 9) 2 pc') (hn : 9 < M.2.2.1) (hp : ev_c1 v8 = true) (kk : Ev E M d pc' (v0 :: v1 :: v2 :: v3 :: v4 :: v5 :: v6 :: v7 :: v8 :: some (.ref x) :: r) st h sz k n Q) : Ev E M d pc (v0 :: v1 :: v2 :: v3 :: v4 :: v5 :: v6 :: v7 :: v8 :: v9 :: r) (.ref x :: st) h sz k n Q := by
  obtain ⟨hd, rfl⟩ := hd
  exact fun p e R s m args below meth c H locs cells slots lsr hC hR hL h1 h2 h3 h4 => (fun hx hb => lv_astore hx hb hd (ev_has hL) hn rfl (fun ls' hl' => kk p e R s m args below meth c H locs cells slots ls' hC hR (ev_L_set (i := 9) (v := .ref x) (ls := (v0 :: v1 :: v2 :: v3 :: v4 :: v5 :: v6 :: v7 :: v8 :: v9 :: r)) hl' (fun w hw => ev_c1_of hp hw)) h1 h2 h3 h4)) hC.ex hC.cd
theorem ev_astore_10 {v0 v1 v2 v3 v4 v5 v6 v7 v8 v9 v10 : Option Value} {x : Nat} (hd : ev_d M pc (.astore 10) 2 pc') (hn : 10 < M.2.2.1) (hp : ev_c1 v9 = true) (kk : Ev E M d pc' (v0 :: v1 :: v2 :: v3 :: v4 :: v5 :: v6 :: v7 :: v8 :: v9 :: some (.ref x) :: r) st h sz k n Q) : Ev E M d pc (v0 :: v1 :: v2 :: v3 :: v4 :: v5 :: v6 :: v7 :: v8 :: v9 :: v10 :: r) (.ref x :: st) h sz k n Q := by
  obtain ⟨hd, rfl⟩ := hd
  exact fun p e R s m args below meth c H locs cells slots lsr hC hR hL h1 h2 h3 h4 => (fun hx hb => lv_astore hx hb hd (ev_has hL) hn rfl (fun ls' hl' => kk p e R s m args below meth c H locs cells slots ls' hC hR (ev_L_set (i := 10) (v := .ref x) (ls := (v0 :: v1 :: v2 :: v3 :: v4 :: v5 :: v6 :: v7 :: v8 :: v9 :: v10 :: r)) hl' (fun w hw => ev_c1_of hp hw)) h1 h2 h3 h4)) hC.ex hC.cd
theorem ev_astore_11 {v0 v1 v2 v3 v4 v5 v6 v7 v8 v9 v10 v11 : Option Value} {x : Nat} (hd : ev_d M pc (.astore 11) 2 pc') (hn : 11 < M.2.2.1) (hp : ev_c1 v10 = true) (kk : Ev E M d pc' (v0 :: v1 :: v2 :: v3 :: v4 :: v5 :: v6 :: v7 :: v8 :: v9 :: v10 :: some (.ref x) :: r) st h sz k n Q) : Ev E M d pc (v0 :: v1 :: v2 :: v3 :: v4 :: v5 :: v6 :: v7 :: v8 :: v9 :: v10 :: v11 :: r) (.ref x :: st) h sz k n Q := by
  obtain ⟨hd, rfl⟩ := hd
  exact fun p e R s m args below meth c H locs cells slots lsr hC hR hL h1 h2 h3 h4 => (fun hx hb => lv_astore hx hb hd (ev_has hL) hn rfl (fun ls' hl' => kk p e R s m args below meth c H locs cells slots ls' hC hR (ev_L_set (i := 11) (v := .ref x) (ls := (v0 :: v1 :: v2 :: v3 :: v4 :: v5 :: v6 :: v7 :: v8 :: v9 :: v10 :: v11 :: r)) hl' (fun w hw => ev_c1_of hp hw)) h1 h2 h3 h4)) hC.ex hC.cd
theorem ev_astore_12 {v0 v1 v2 v3 v4 v5 v6 v7 v8 v9 v10 v11 v12 : Option Value} {x : Nat} (hd : ev_d M pc (.astore 12) 2 pc') (hn : 12 < M.2.2.1) (hp : ev_c1 v11 = true) (kk : Ev E M d pc' (v0 :: v1 :: v2 :: v3 :: v4 :: v5 :: v6 :: v7 :: v8 :: v9 :: v10 :: v11 :: some (.ref x) :: r) st h sz k n Q) : Ev E M d pc (v0 :: v1 :: v2 :: v3 :: v4 :: v5 :: v6 :: v7 :: v8 :: v9 :: v10 :: v11 :: v12 :: r) (.ref x :: st) h sz k n Q := by
  obtain ⟨hd, rfl⟩ := hd
  exact fun p e R s m args below meth c H locs cells slots lsr hC hR hL h1 h2 h3 h4 => (fun hx hb => lv_astore hx hb hd (ev_has hL) hn rfl (fun ls' hl' => kk p e R s m args below meth c H locs cells slots ls' hC hR (ev_L_set (i := 12) (v := .ref x) (ls := (v0 :: v1 :: v2 :: v3 :: v4 :: v5 :: v6 :: v7 :: v8 :: v9 :: v10 :: v11 :: v12 :: r)) hl' (fun w hw => ev_c1_of hp hw)) h1 h2 h3 h4)) hC.ex hC.cd
theorem ev_astore_13 {v0 v1 v2 v3 v4 v5 v6 v7 v8 v9 v10 v11 v12 v13 : Option Value} {x : Nat} (hd : ev_d M pc (.astore 13) 2 pc') (hn : 13 < M.2.2.1) (hp : ev_c1 v12 = true) (kk : Ev E M d pc' (v0 :: v1 :: v2 :: v3 :: v4 :: v5 :: v6 :: v7 :: v8 :: v9 :: v10 :: v11 :: v12 :: some (.ref x) :: r) st h sz k n Q) : Ev E M d pc (v0 :: v1 :: v2 :: v3 :: v4 :: v5 :: v6 :: v7 :: v8 :: v9 :: v10 :: v11 :: v12 :: v13 :: r) (.ref x :: st) h sz k n Q := by
  obtain ⟨hd, rfl⟩ := hd
  exact fun p e R s m args below meth c H locs cells slots lsr hC hR hL h1 h2 h3 h4 => (fun hx hb => lv_astore hx hb hd (ev_has hL) hn rfl (fun ls' hl' => kk p e R s m args below meth c H locs cells slots ls' hC hR (ev_L_set (i := 13) (v := .ref x) (ls := (v0 :: v1 :: v2 :: v3 :: v4 :: v5 :: v6 :: v7 :: v8 :: v9 :: v10 :: v11 :: v12 :: v13 :: r)) hl' (fun w hw => ev_c1_of hp hw)) h1 h2 h3 h4)) hC.ex hC.cd
theorem ev_lstore_0 {v0 v1 : Option Value} {x : Int64} (hd : ev_d M pc (.lstore_n 0) 1 pc') (hn : 0 + 1 < M.2.2.1) (kk : Ev E M d pc' (some (.long x) :: none :: r) st h sz k n Q) : Ev E M d pc (v0 :: v1 :: r) (.long x :: st) h sz k n Q := by
  obtain ⟨hd, rfl⟩ := hd
  exact fun p e R s m args below meth c H locs cells slots lsr hC hR hL h1 h2 h3 h4 => (fun hx hb => lv_lstore_n hx hb hd rfl (ev_has hL) hn rfl (fun ls' hl' => kk p e R s m args below meth c H locs cells slots ls' hC hR (ev_L_gen2 (i := 0) (v := .long x) (ls := (v0 :: v1 :: r)) hl' (fun w hw => by cases hw)) h1 h2 h3 h4)) hC.ex hC.cd
theorem ev_lstore_1 {v0 v1 v2 : Option Value} {x : Int64} (hd : ev_d M pc (.lstore_n 1) 1 pc') (hn : 1 + 1 < M.2.2.1) (hp : ev_c1 v0 = true) (kk : Ev E M d pc' (v0 :: some (.long x) :: none :: r) st h sz k n Q) : Ev E M d pc (v0 :: v1 :: v2 :: r) (.long x :: st) h sz k n Q := by
  obtain ⟨hd, rfl⟩ := hd
  exact fun p e R s m args below meth c H locs cells slots lsr hC hR hL h1 h2 h3 h4 => (fun hx hb => lv_lstore_n hx hb hd rfl (ev_has hL) hn rfl (fun ls' hl' => kk p e R s m args below meth c H locs cells slots ls' hC hR (ev_L_gen2 (i := 1) (v := .long x) (ls := (v0 :: v1 :: v2 :: r)) hl' (fun w hw => ev_c1_of hp hw)) h1 h2 h3 h4)) hC.ex hC.cd
theorem ev_lstore_2 {v0 v1 v2 v3 : Option Value} {x : Int64} (hd : ev_d M pc (.lstore_n 2) 1 pc') (hn : 2 + 1 < M.2.2.1) (hp : ev_c1 v1 = true) (kk : Ev E M d pc' (v0 :: v1 :: some (.long x) :: none :: r) st h sz k n Q) : Ev E M d pc (v0 :: v1 :: v2 :: v3 :: r) (.long x :: st) h sz k n Q := by
  obtain ⟨hd, rfl⟩ := hd
  exact fun p e R s m args below meth c H locs cells slots lsr hC hR hL h1 h2 h3 h4 => (fun hx hb => lv_lstore_n hx hb hd rfl (ev_has hL) hn rfl (fun ls' hl' => kk p e R s m args below meth c H locs cells slots ls' hC hR (ev_L_gen2 (i := 2) (v := .long x) (ls := (v0 :: v1 :: v2 :: v3 :: r)) hl' (fun w hw => ev_c1_of hp hw)) h1 h2 h3 h4)) hC.ex hC.cd
theorem ev_lstore_3 {v0 v1 v2 v3 v4 : Option Value} {x : Int64} (hd : ev_d M pc (.lstore_n 3) 1 pc') (hn : 3 + 1 < M.2.2.1) (hp : ev_c1 v2 = true) (kk : Ev E M d pc' (v0 :: v1 :: v2 :: some (.long x) :: none :: r) st h sz k n Q) : Ev E M d pc (v0 :: v1 :: v2 :: v3 :: v4 :: r) (.long x :: st) h sz k n Q := by
  obtain ⟨hd, rfl⟩ := hd
  exact fun p e R s m args below meth c H locs cells slots lsr hC hR hL h1 h2 h3 h4 => (fun hx hb => lv_lstore_n hx hb hd rfl (ev_has hL) hn rfl (fun ls' hl' => kk p e R s m args below meth c H locs cells slots ls' hC hR (ev_L_gen2 (i := 3) (v := .long x) (ls := (v0 :: v1 :: v2 :: v3 :: v4 :: r)) hl' (fun w hw => ev_c1_of hp hw)) h1 h2 h3 h4)) hC.ex hC.cd
theorem ev_lstore_4 {v0 v1 v2 v3 v4 v5 : Option Value} {x : Int64} (hd : ev_d M pc (.lstore 4) 2 pc') (hn : 4 + 1 < M.2.2.1) (hp : ev_c1 v3 = true) (kk : Ev E M d pc' (v0 :: v1 :: v2 :: v3 :: some (.long x) :: none :: r) st h sz k n Q) : Ev E M d pc (v0 :: v1 :: v2 :: v3 :: v4 :: v5 :: r) (.long x :: st) h sz k n Q := by
  obtain ⟨hd, rfl⟩ := hd
  exact fun p e R s m args below meth c H locs cells slots lsr hC hR hL h1 h2 h3 h4 => (fun hx hb => lv_lstore hx hb hd (ev_has hL) hn rfl (fun ls' hl' => kk p e R s m args below meth c H locs cells slots ls' hC hR (ev_L_gen2 (i := 4) (v := .long x) (ls := (v0 :: v1 :: v2 :: v3 :: v4 :: v5 :: r)) hl' (fun w hw => ev_c1_of hp hw)) h1 h2 h3 h4)) hC.ex hC.cd
theorem ev_lstore_5 {v0 v1 v2 v3 v4 v5 v6 : Option Value} {x : Int64} (hd : ev_d M pc (.lstore 5) 2 pc') (hn : 5 + 1 < M.2.2.1) (hp : ev_c1 v4 = true) (kk : Ev E M d pc' (v0 :: v1 :: v2 :: v3 :: v4 :: some (.long x) :: none :: r) st h sz k n Q) : Ev E M d pc (v0 :: v1 :: v2 :: v3 :: v4 :: v5 :: v6 :: r) (.long x :: st) h sz k n Q := by
  obtain ⟨hd, rfl⟩ := hd
  exact fun p e R s m args below meth c H locs cells slots lsr hC hR hL h1 h2 h3 h4 => (fun hx hb => lv_lstore hx hb hd (ev_has hL) hn rfl (fun ls' hl' => kk p e R s m args below meth c H locs cells slots ls' hC hR (ev_L_gen2 (i := 5) (v := .long x) (ls := (v0 :: v1 :: v2 :: v3 :: v4 :: v5 :: v6 :: r)) hl' (fun w hw => ev_c1_of hp hw)) h1 h2 h3 h4)) hC.ex hC.cd
theorem ev_lstore_6 {v0 v1 v2 v3 v4 v5 v6 v7 : Option Value} {x : Int64} (hd : ev_d M pc (.lstore 6) 2 pc') (hn : 6 + 1 < M.2.2.1) (hp : ev_c1 v5 = true) (kk : Ev E M d pc' (v0 :: v1 :: v2 :: v3 :: v4 :: v5 :: some (.long x) :: none :: r) st h sz k n Q) : Ev E M d pc (v0 :: v1 :: v2 :: v3 :: v4 :: v5 :: v6 :: v7 :: r) (.long x :: st) h sz k n Q := by
  obtain ⟨hd, rfl⟩ := hd
  exact fun p e R s m args below meth c H locs cells slots lsr hC hR hL h1 h2 h3 h4 => (fun hx hb => lv_lstore hx hb hd (ev_has hL) hn rfl (fun ls' hl' => kk p e R s m args below meth c H locs cells slots ls' hC hR (ev_L_gen2 (i := 6) (v := .long x) (ls := (v0 :: v1 :: v2 :: v3 :: v4 :: v5 :: v6 :: v7 :: r)) hl' (fun w hw => ev_c1_of hp hw)) h1 h2 h3 h4)) hC.ex hC.cd
theorem ev_iinc_0 {x y : Int32} {j : Int} (hd : ev_d M pc (.iinc 0 j) 3 pc') (hv : x + Int32.ofInt j = y) (hn : 0 < M.2.2.1) (kk : Ev E M d pc' (some (.int y) :: r) st h sz k n Q) : Ev E M d pc (some (.int x) :: r) st h sz k n Q := by
  obtain ⟨hd, rfl⟩ := hd
  exact fun p e R s m args below meth c H locs cells slots lsr hC hR hL h1 h2 h3 h4 => (fun hx hb => lv_iinc hx hb hd (ev_has1 (hL.2.2 0 _ rfl) hL) (k := 0) rfl hv hn rfl (fun ls' hl' => kk p e R s m args below meth c H locs cells slots ls' hC hR (ev_L_set1 (i := 0) (v := .int y) (ls := (some (.int x) :: r)) hl' (fun w hw => by cases hw)) h1 h2 h3 h4)) hC.ex hC.cd
theorem ev_inc1_0 {i : Nat} (hd : ev_d M pc (.iinc 0 1) 3 pc') (hn : 0 < M.2.2.1) (kk : Ev E M d pc' (some (.int (nI (i + 1))) :: r) st h sz k n Q) : Ev E M d pc (some (.int (nI i)) :: r) st h sz k n Q := ev_iinc_0 hd (nI_1 i) hn  kk
theorem ev_iinc_1 {v0 : Option Value} {x y : Int32} {j : Int} (hd : ev_d M pc (.iinc 1 j) 3 pc') (hv : x + Int32.ofInt j = y) (hn : 1 < M.2.2.1) (hp : ev_c1 v0 = true) (kk : Ev E M d pc' (v0 :: some (.int y) :: r) st h sz k n Q) : Ev E M d pc (v0 :: some (.int x) :: r) st h sz k n Q := by
  obtain ⟨hd, rfl⟩ := hd
  exact fun p e R s m args below meth c H locs cells slots lsr hC hR hL h1 h2 h3 h4 => (fun hx hb => lv_iinc hx hb hd (ev_has1 (hL.2.2 1 _ rfl) hL) (k := 0) rfl hv hn rfl (fun ls' hl' => kk p e R s m args below meth c H locs cells slots ls' hC hR (ev_L_set1 (i := 1) (v := .int y) (ls := (v0 :: some (.int x) :: r)) hl' (fun w hw => ev_c1_of hp hw)) h1 h2 h3 h4)) hC.ex hC.cd
theorem ev_inc1_1 {v0 : Option Value} {i : Nat} (hd : ev_d M pc (.iinc 1 1) 3 pc') (hn : 1 < M.2.2.1) (hp : ev_c1 v0 = true) (kk : Ev E M d pc' (v0 :: some (.int (nI (i + 1))) :: r) st h sz k n Q) : Ev E M d pc (v0 :: some (.int (nI i)) :: r) st h sz k n Q := ev_iinc_1 hd (nI_1 i) hn hp kk
theorem ev_iinc_2 {v0 v1 : Option Value} {x y : Int32} {j : Int} (hd : ev_d M pc (.iinc 2 j) 3 pc') (hv : x + Int32.ofInt j = y) (hn : 2 < M.2.2.1) (hp : ev_c1 v1 = true) (kk : Ev E M d pc' (v0 :: v1 :: some (.int y) :: r) st h sz k n Q) : Ev E M d pc (v0 :: v1 :: some (.int x) :: r) st h sz k n Q := by
  obtain ⟨hd, rfl⟩ := hd
  exact fun p e R s m args below meth c H locs cells slots lsr hC hR hL h1 h2 h3 h4 => (fun hx hb => lv_iinc hx hb hd (ev_has1 (hL.2.2 2 _ rfl) hL) (k := 0) rfl hv hn rfl (fun ls' hl' => kk p e R s m args below meth c H locs cells slots ls' hC hR (ev_L_set1 (i := 2) (v := .int y) (ls := (v0 :: v1 :: some (.int x) :: r)) hl' (fun w hw => ev_c1_of hp hw)) h1 h2 h3 h4)) hC.ex hC.cd
theorem ev_inc1_2 {v0 v1 : Option Value} {i : Nat} (hd : ev_d M pc (.iinc 2 1) 3 pc') (hn : 2 < M.2.2.1) (hp : ev_c1 v1 = true) (kk : Ev E M d pc' (v0 :: v1 :: some (.int (nI (i + 1))) :: r) st h sz k n Q) : Ev E M d pc (v0 :: v1 :: some (.int (nI i)) :: r) st h sz k n Q := ev_iinc_2 hd (nI_1 i) hn hp kk
theorem ev_iinc_3 {v0 v1 v2 : Option Value} {x y : Int32} {j : Int} (hd : ev_d M pc (.iinc 3 j) 3 pc') (hv : x + Int32.ofInt j = y) (hn : 3 < M.2.2.1) (hp : ev_c1 v2 = true) (kk : Ev E M d pc' (v0 :: v1 :: v2 :: some (.int y) :: r) st h sz k n Q) : Ev E M d pc (v0 :: v1 :: v2 :: some (.int x) :: r) st h sz k n Q := by
  obtain ⟨hd, rfl⟩ := hd
  exact fun p e R s m args below meth c H locs cells slots lsr hC hR hL h1 h2 h3 h4 => (fun hx hb => lv_iinc hx hb hd (ev_has1 (hL.2.2 3 _ rfl) hL) (k := 0) rfl hv hn rfl (fun ls' hl' => kk p e R s m args below meth c H locs cells slots ls' hC hR (ev_L_set1 (i := 3) (v := .int y) (ls := (v0 :: v1 :: v2 :: some (.int x) :: r)) hl' (fun w hw => ev_c1_of hp hw)) h1 h2 h3 h4)) hC.ex hC.cd
theorem ev_inc1_3 {v0 v1 v2 : Option Value} {i : Nat} (hd : ev_d M pc (.iinc 3 1) 3 pc') (hn : 3 < M.2.2.1) (hp : ev_c1 v2 = true) (kk : Ev E M d pc' (v0 :: v1 :: v2 :: some (.int (nI (i + 1))) :: r) st h sz k n Q) : Ev E M d pc (v0 :: v1 :: v2 :: some (.int (nI i)) :: r) st h sz k n Q := ev_iinc_3 hd (nI_1 i) hn hp kk
theorem ev_iinc_4 {v0 v1 v2 v3 : Option Value} {x y : Int32} {j : Int} (hd : ev_d M pc (.iinc 4 j) 3 pc') (hv : x + Int32.ofInt j = y) (hn : 4 < M.2.2.1) (hp : ev_c1 v3 = true) (kk : Ev E M d pc' (v0 :: v1 :: v2 :: v3 :: some (.int y) :: r) st h sz k n Q) : Ev E M d pc (v0 :: v1 :: v2 :: v3 :: some (.int x) :: r) st h sz k n Q := by
  obtain ⟨hd, rfl⟩ := hd
  exact fun p e R s m args below meth c H locs cells slots lsr hC hR hL h1 h2 h3 h4 => (fun hx hb => lv_iinc hx hb hd (ev_has1 (hL.2.2 4 _ rfl) hL) (k := 0) rfl hv hn rfl (fun ls' hl' => kk p e R s m args below meth c H locs cells slots ls' hC hR (ev_L_set1 (i := 4) (v := .int y) (ls := (v0 :: v1 :: v2 :: v3 :: some (.int x) :: r)) hl' (fun w hw => ev_c1_of hp hw)) h1 h2 h3 h4)) hC.ex hC.cd
theorem ev_inc1_4 {v0 v1 v2 v3 : Option Value} {i : Nat} (hd : ev_d M pc (.iinc 4 1) 3 pc') (hn : 4 < M.2.2.1) (hp : ev_c1 v3 = true) (kk : Ev E M d pc' (v0 :: v1 :: v2 :: v3 :: some (.int (nI (i + 1))) :: r) st h sz k n Q) : Ev E M d pc (v0 :: v1 :: v2 :: v3 :: some (.int (nI i)) :: r) st h sz k n Q := ev_iinc_4 hd (nI_1 i) hn hp kk
theorem ev_iinc_5 {v0 v1 v2 v3 v4 : Option Value} {x y : Int32} {j : Int} (hd : ev_d M pc (.iinc 5 j) 3 pc') (hv : x + Int32.ofInt j = y) (hn : 5 < M.2.2.1) (hp : ev_c1 v4 = true) (kk : Ev E M d pc' (v0 :: v1 :: v2 :: v3 :: v4 :: some (.int y) :: r) st h sz k n Q) : Ev E M d pc (v0 :: v1 :: v2 :: v3 :: v4 :: some (.int x) :: r) st h sz k n Q := by
  obtain ⟨hd, rfl⟩ := hd
  exact fun p e R s m args below meth c H locs cells slots lsr hC hR hL h1 h2 h3 h4 => (fun hx hb => lv_iinc hx hb hd (ev_has1 (hL.2.2 5 _ rfl) hL) (k := 0) rfl hv hn rfl (fun ls' hl' => kk p e R s m args below meth c H locs cells slots ls' hC hR (ev_L_set1 (i := 5) (v := .int y) (ls := (v0 :: v1 :: v2 :: v3 :: v4 :: some (.int x) :: r)) hl' (fun w hw => ev_c1_of hp hw)) h1 h2 h3 h4)) hC.ex hC.cd
theorem ev_inc1_5 {v0 v1 v2 v3 v4 : Option Value} {i : Nat} (hd : ev_d M pc (.iinc 5 1) 3 pc') (hn : 5 < M.2.2.1) (hp : ev_c1 v4 = true) (kk : Ev E M d pc' (v0 :: v1 :: v2 :: v3 :: v4 :: some (.int (nI (i + 1))) :: r) st h sz k n Q) : Ev E M d pc (v0 :: v1 :: v2 :: v3 :: v4 :: some (.int (nI i)) :: r) st h sz k n Q := ev_iinc_5 hd (nI_1 i) hn hp kk
theorem ev_iinc_6 {v0 v1 v2 v3 v4 v5 : Option Value} {x y : Int32} {j : Int} (hd : ev_d M pc (.iinc 6 j) 3 pc') (hv : x + Int32.ofInt j = y) (hn : 6 < M.2.2.1) (hp : ev_c1 v5 = true) (kk : Ev E M d pc' (v0 :: v1 :: v2 :: v3 :: v4 :: v5 :: some (.int y) :: r) st h sz k n Q) : Ev E M d pc (v0 :: v1 :: v2 :: v3 :: v4 :: v5 :: some (.int x) :: r) st h sz k n Q := by
  obtain ⟨hd, rfl⟩ := hd
  exact fun p e R s m args below meth c H locs cells slots lsr hC hR hL h1 h2 h3 h4 => (fun hx hb => lv_iinc hx hb hd (ev_has1 (hL.2.2 6 _ rfl) hL) (k := 0) rfl hv hn rfl (fun ls' hl' => kk p e R s m args below meth c H locs cells slots ls' hC hR (ev_L_set1 (i := 6) (v := .int y) (ls := (v0 :: v1 :: v2 :: v3 :: v4 :: v5 :: some (.int x) :: r)) hl' (fun w hw => ev_c1_of hp hw)) h1 h2 h3 h4)) hC.ex hC.cd
theorem ev_inc1_6 {v0 v1 v2 v3 v4 v5 : Option Value} {i : Nat} (hd : ev_d M pc (.iinc 6 1) 3 pc') (hn : 6 < M.2.2.1) (hp : ev_c1 v5 = true) (kk : Ev E M d pc' (v0 :: v1 :: v2 :: v3 :: v4 :: v5 :: some (.int (nI (i + 1))) :: r) st h sz k n Q) : Ev E M d pc (v0 :: v1 :: v2 :: v3 :: v4 :: v5 :: some (.int (nI i)) :: r) st h sz k n Q := ev_iinc_6 hd (nI_1 i) hn hp kk
theorem ev_iinc_7 {v0 v1 v2 v3 v4 v5 v6 : Option Value} {x y : Int32} {j : Int} (hd : ev_d M pc (.iinc 7 j) 3 pc') (hv : x + Int32.ofInt j = y) (hn : 7 < M.2.2.1) (hp : ev_c1 v6 = true) (kk : Ev E M d pc' (v0 :: v1 :: v2 :: v3 :: v4 :: v5 :: v6 :: some (.int y) :: r) st h sz k n Q) : Ev E M d pc (v0 :: v1 :: v2 :: v3 :: v4 :: v5 :: v6 :: some (.int x) :: r) st h sz k n Q := by
  obtain ⟨hd, rfl⟩ := hd
  exact fun p e R s m args below meth c H locs cells slots lsr hC hR hL h1 h2 h3 h4 => (fun hx hb => lv_iinc hx hb hd (ev_has1 (hL.2.2 7 _ rfl) hL) (k := 0) rfl hv hn rfl (fun ls' hl' => kk p e R s m args below meth c H locs cells slots ls' hC hR (ev_L_set1 (i := 7) (v := .int y) (ls := (v0 :: v1 :: v2 :: v3 :: v4 :: v5 :: v6 :: some (.int x) :: r)) hl' (fun w hw => ev_c1_of hp hw)) h1 h2 h3 h4)) hC.ex hC.cd
theorem ev_inc1_7 {v0 v1 v2 v3 v4 v5 v6 : Option Value} {i : Nat} (hd : ev_d M pc (.iinc 7 1) 3 pc') (hn : 7 < M.2.2.1) (hp : ev_c1 v6 = true) (kk : Ev E M d pc' (v0 :: v1 :: v2 :: v3 :: v4 :: v5 :: v6 :: some (.int (nI (i + 1))) :: r) st h sz k n Q) : Ev E M d pc (v0 :: v1 :: v2 :: v3 :: v4 :: v5 :: v6 :: some (.int (nI i)) :: r) st h sz k n Q := ev_iinc_7 hd (nI_1 i) hn hp kk
theorem ev_iinc_8 {v0 v1 v2 v3 v4 v5 v6 v7 : Option Value} {x y : Int32} {j : Int} (hd : ev_d M pc (.iinc 8 j) 3 pc') (hv : x + Int32.ofInt j = y) (hn : 8 < M.2.2.1) (hp : ev_c1 v7 = true) (kk : Ev E M d pc' (v0 :: v1 :: v2 :: v3 :: v4 :: v5 :: v6 :: v7 :: some (.int y) :: r) st h sz k n Q) : Ev E M d pc (v0 :: v1 :: v2 :: v3 :: v4 :: v5 :: v6 :: v7 :: some (.int x) :: r) st h sz k n Q := by
  obtain ⟨hd, rfl⟩ := hd
  exact fun p e R s m args below meth c H locs cells slots lsr hC hR hL h1 h2 h3 h4 => (fun hx hb => lv_iinc hx hb hd (ev_has1 (hL.2.2 8 _ rfl) hL) (k := 0) rfl hv hn rfl (fun ls' hl' => kk p e R s m args below meth c H locs cells slots ls' hC hR (ev_L_set1 (i := 8) (v := .int y) (ls := (v0 :: v1 :: v2 :: v3 :: v4 :: v5 :: v6 :: v7 :: some (.int x) :: r)) hl' (fun w hw => ev_c1_of hp hw)) h1 h2 h3 h4)) hC.ex hC.cd
theorem ev_inc1_8 {v0 v1 v2 v3 v4 v5 v6 v7 : Option Value} {i : Nat} (hd : ev_d M pc (.iinc 8 1) 3 pc') (hn : 8 < M.2.2.1) (hp : ev_c1 v7 = true) (kk : Ev E M d pc' (v0 :: v1 :: v2 :: v3 :: v4 :: v5 :: v6 :: v7 :: some (.int (nI (i + 1))) :: r) st h sz k n Q) : Ev E M d pc (v0 :: v1 :: v2 :: v3 :: v4 :: v5 :: v6 :: v7 :: some (.int (nI i)) :: r) st h sz k n Q := ev_iinc_8 hd (nI_1 i) hn hp kk
theorem ev_iinc_9 {v0 v1 v2 v3 v4 v5 v6 v7 v8 : Option Value} {x y : Int32} {j : Int} (hd : ev_d M pc (.iinc 9 j) 3 pc') (hv : x + Int32.ofInt j = y) (hn : 9 < M.2.2.1) (hp : ev_c1 v8 = true) (kk : Ev E M d pc' (v0 :: v1 :: v2 :: v3 :: v4 :: v5 :: v6 :: v7 :: v8 :: some (.int y) :: r) st h sz k n Q) : Ev E M d pc (v0 :: v1 :: v2 :: v3 :: v4 :: v5 :: v6 :: v7 :: v8 :: some (.int x) :: r) st h sz k n Q := by
  obtain ⟨hd, rfl⟩ := hd
  exact fun p e R s m args below meth c H locs cells slots lsr hC hR hL h1 h2 h3 h4 => (fun hx hb => lv_iinc hx hb hd (ev_has1 (hL.2.2 9 _ rfl) hL) (k := 0) rfl hv hn rfl (fun ls' hl' => kk p e R s m args below meth c H locs cells slots ls' hC hR (ev_L_set1 (i := 9) (v := .int y) (ls := (v0 :: v1 :: v2 :: v3 :: v4 :: v5 :: v6 :: v7 :: v8 :: some (.int x) :: r)) hl' (fun w hw => ev_c1_of hp hw)) h1 h2 h3 h4)) hC.ex hC.cd
theorem ev_inc1_9 {v0 v1 v2 v3 v4 v5 v6 v7 v8 : Option Value} {i : Nat} (hd : ev_d M pc (.iinc 9 1) 3 pc') (hn : 9 < M.2.2.1) (hp : ev_c1 v8 = true) (kk : Ev E M d pc' (v0 :: v1 :: v2 :: v3 :: v4 :: v5 :: v6 :: v7 :: v8 :: some (.int (nI (i + 1))) :: r) st h sz k n Q) : Ev E M d pc (v0 :: v1 :: v2 :: v3 :: v4 :: v5 :: v6 :: v7 :: v8 :: some (.int (nI i)) :: r) st h sz k n Q := ev_iinc_9 hd (nI_1 i) hn hp kk
theorem ev_iinc_10 {v0 v1 v2 v3 v4 v5 v6 v7 v8 v9 : Option Value} {x y : Int32} {j : Int} (hd : ev_d M pc (.iinc 10 j) 3 pc') (hv : x + Int32.ofInt j = y) (hn : 10 < M.2.2.1) (hp : ev_c1 v9 = true) (kk : Ev E M d pc' (v0 :: v1 :: v2 :: v3 :: v4 :: v5 :: v6 :: v7 :: v8 :: v9 :: some (.int y) :: r) st h sz k n Q) : Ev E M d pc (v0 :: v1 :: v2 :: v3 :: v4 :: v5 :: v6 :: v7 :: v8 :: v9 :: some (.int x) :: r) st h sz k n Q := by
  obtain ⟨hd, rfl⟩ := hd
  exact fun p e R s m args below meth c H locs cells slots lsr hC hR hL h1 h2 h3 h4 => (fun hx hb => lv_iinc hx hb hd (ev_has1 (hL.2.2 10 _ rfl) hL) (k := 0) rfl hv hn rfl (fun ls' hl' => kk p e R s m args below meth c H locs cells slots ls' hC hR (ev_L_set1 (i := 10) (v := .int y) (ls := (v0 :: v1 :: v2 :: v3 :: v4 :: v5 :: v6 :: v7 :: v8 :: v9 :: some (.int x) :: r)) hl' (fun w hw => ev_c1_of hp hw)) h1 h2 h3 h4)) hC.ex hC.cd
theorem ev_inc1_10 {v0 v1 v2 v3 v4 v5 v6 v7 v8 v9 : Option Value} {i : Nat} (hd : ev_d M pc (.iinc 10 1) 3 pc') (hn : 10 < M.2.2.1) (hp : ev_c1 v9 = true) (kk : Ev E M d pc' (v0 :: v1 :: v2 :: v3 :: v4 :: v5 :: v6 :: v7 :: v8 :: v9 :: some (.int (nI (i + 1))) :: r) st h sz k n Q) : Ev E M d pc (v0 :: v1 :: v2 :: v3 :: v4 :: v5 :: v6 :: v7 :: v8 :: v9 :: some (.int (nI i)) :: r) st h sz k n Q := ev_iinc_10 hd (nI_1 i) hn hp kk
theorem ev_iinc_11 {v0 v1 v2 v3 v4 v5 v6 v7 v8 v9 v10 : Option Value} {x y : Int32} {j : Int} (hd : ev_d M pc (.iinc 11 j) 3 pc') (hv : x + Int32.ofInt j = y) (hn : 11 < M.2.2.1) (hp : ev_c1 v10 = true) (kk : Ev E M d pc' (v0 :: v1 :: v2 :: v3 :: v4 :: v5 :: v6 :: v7 :: v8 :: v9 :: v10 :: some (.int y) :: r) st h sz k n Q) : Ev E M d pc (v0 :: v1 :: v2 :: v3 :: v4 :: v5 :: v6 :: v7 :: v8 :: v9 :: v10 :: some (.int x) :: r) st h sz k n Q := by
  obtain ⟨hd, rfl⟩ := hd
  exact fun p e R s m args below meth c H locs cells slots lsr hC hR hL h1 h2 h3 h4 => (fun hx hb => lv_iinc hx hb hd (ev_has1 (hL.2.2 11 _ rfl) hL) (k := 0) rfl hv hn rfl (fun ls' hl' => kk p e R s m args below meth c H locs cells slots ls' hC hR (ev_L_set1 (i := 11) (v := .int y) (ls := (v0 :: v1 :: v2 :: v3 :: v4 :: v5 :: v6 :: v7 :: v8 :: v9 :: v10 :: some (.int x) :: r)) hl' (fun w hw => ev_c1_of hp hw)) h1 h2 h3 h4)) hC.ex hC.cd
theorem ev_inc1_11 {v0 v1 v2 v3 v4 v5 v6 v7 v8 v9 v10 : Option Value} {i : Nat} (hd : ev_d M pc (.iinc 11 1) 3 pc') (hn : 11 < M.2.2.1) (hp : ev_c1 v10 = true) (kk : Ev E M d pc' (v0 :: v1 :: v2 :: v3 :: v4 :: v5 :: v6 :: v7 :: v8 :: v9 :: v10 :: some (.int (nI (i + 1))) :: r) st h sz k n Q) : Ev E M d pc (v0 :: v1 :: v2 :: v3 :: v4 :: v5 :: v6 :: v7 :: v8 :: v9 :: v10 :: some (.int (nI i)) :: r) st h sz k n Q := ev_iinc_11 hd (nI_1 i) hn hp kk
theorem ev_iinc_12 {v0 v1 v2 v3 v4 v5 v6 v7 v8 v9 v10 v11 : Option Value} {x y : Int32} {j : Int} (hd : ev_d M pc (.iinc 12 j) 3 pc') (hv : x + Int32.ofInt j = y) (hn : 12 < M.2.2.1) (hp : ev_c1 v11 = true) (kk : Ev E M d pc' (v0 :: v1 :: v2 :: v3 :: v4 :: v5 :: v6 :: v7 :: v8 :: v9 :: v10 :: v11 :: some (.int y) :: r) st h sz k n Q) : Ev E M d pc (v0 :: v1 :: v2 :: v3 :: v4 :: v5 :: v6 :: v7 :: v8 :: v9 :: v10 :: v11 :: some (.int x) :: r) st h sz k n Q := by
  obtain ⟨hd, rfl⟩ := hd
  exact fun p e R s m args below meth c H locs cells slots lsr hC hR hL h1 h2 h3 h4 => (fun hx hb => lv_iinc hx hb hd (ev_has1 (hL.2.2 12 _ rfl) hL) (k := 0) rfl hv hn rfl (fun ls' hl' => kk p e R s m args below meth c H locs cells slots ls' hC hR (ev_L_set1 (i := 12) (v := .int y) (ls := (v0 :: v1 :: v2 :: v3 :: v4 :: v5 :: v6 :: v7 :: v8 :: v9 :: v10 :: v11 :: some (.int x) :: r)) hl' (fun w hw => ev_c1_of hp hw)) h1 h2 h3 h4)) hC.ex hC.cd
theorem ev_inc1_12 {v0 v1 v2 v3 v4 v5 v6 v7 v8 v9 v10 v11 : Option Value} {i : Nat} (hd : ev_d M pc (.iinc 12 1) 3 pc') (hn : 12 < M.2.2.1) (hp : ev_c1 v11 = true) (kk : Ev E M d pc' (v0 :: v1 :: v2 :: v3 :: v4 :: v5 :: v6 :: v7 :: v8 :: v9 :: v10 :: v11 :: some (.int (nI (i + 1))) :: r) st h sz k n Q) : Ev E M d pc (v0 :: v1 :: v2 :: v3 :: v4 :: v5 :: v6 :: v7 :: v8 :: v9 :: v10 :: v11 :: some (.int (nI i)) :: r) st h sz k n Q := ev_iinc_12 hd (nI_1 i) hn hp kk
theorem ev_iinc_13 {v0 v1 v2 v3 v4 v5 v6 v7 v8 v9 v10 v11 v12 : Option Value} {x y : Int32} {j : Int} (hd : ev_d M pc (.iinc 13 j) 3 pc') (hv : x + Int32.ofInt j = y) (hn : 13 < M.2.2.1) (hp : ev_c1 v12 = true) (kk : Ev E M d pc' (v0 :: v1 :: v2 :: v3 :: v4 :: v5 :: v6 :: v7 :: v8 :: v9 :: v10 :: v11 :: v12 :: some (.int y) :: r) st h sz k n Q) : Ev E M d pc (v0 :: v1 :: v2 :: v3 :: v4 :: v5 :: v6 :: v7 :: v8 :: v9 :: v10 :: v11 :: v12 :: some (.int x) :: r) st h sz k n Q := by
  obtain ⟨hd, rfl⟩ := hd
  exact fun p e R s m args below meth c H locs cells slots lsr hC hR hL h1 h2 h3 h4 => (fun hx hb => lv_iinc hx hb hd (ev_has1 (hL.2.2 13 _ rfl) hL) (k := 0) rfl hv hn rfl (fun ls' hl' => kk p e R s m args below meth c H locs cells slots ls' hC hR (ev_L_set1 (i := 13) (v := .int y) (ls := (v0 :: v1 :: v2 :: v3 :: v4 :: v5 :: v6 :: v7 :: v8 :: v9 :: v10 :: v11 :: v12 :: some (.int x) :: r)) hl' (fun w hw => ev_c1_of hp hw)) h1 h2 h3 h4)) hC.ex hC.cd
theorem ev_inc1_13 {v0 v1 v2 v3 v4 v5 v6 v7 v8 v9 v10 v11 v12 : Option Value} {i : Nat} (hd : ev_d M pc (.iinc 13 1) 3 pc') (hn : 13 < M.2.2.1) (hp : ev_c1 v12 = true) (kk : Ev E M d pc' (v0 :: v1 :: v2 :: v3 :: v4 :: v5 :: v6 :: v7 :: v8 :: v9 :: v10 :: v11 :: v12 :: some (.int (nI (i + 1))) :: r) st h sz k n Q) : Ev E M d pc (v0 :: v1 :: v2 :: v3 :: v4 :: v5 :: v6 :: v7 :: v8 :: v9 :: v10 :: v11 :: v12 :: some (.int (nI i)) :: r) st h sz k n Q := ev_iinc_13 hd (nI_1 i) hn hp kk
theorem ev_iconst {j : Int} {v : Int32} (hd : ev_d M pc (.iconst j) 1 pc') (hv : Int32.ofInt j = v) (kk : Ev E M d pc' ls (.int v :: st) h sz k n Q) : Ev E M d pc ls st h sz k n Q := by
  obtain ⟨hd, rfl⟩ := hd
  exact ev_pure (fun hx hb hL kw => lv_iconst hx hb hd hv kw) kk
theorem ev_ic0 (hd : ev_d M pc (.iconst 0) 1 pc') (kk : Ev E M d pc' ls (.int (nI 0) :: st) h sz k n Q) : Ev E M d pc ls st h sz k n Q := by
  obtain ⟨hd, rfl⟩ := hd
  exact ev_pure (fun hx hb hL kw => lv_iconst hx hb hd (by decide +kernel) kw) kk
theorem ev_ic1 (hd : ev_d M pc (.iconst 1) 1 pc') (kk : Ev E M d pc' ls (.int (nI 1) :: st) h sz k n Q) : Ev E M d pc ls st h sz k n Q := by
  obtain ⟨hd, rfl⟩ := hd
  exact ev_pure (fun hx hb hL kw => lv_iconst hx hb hd (by decide +kernel) kw) kk
theorem ev_ic2 (hd : ev_d M pc (.iconst 2) 1 pc') (kk : Ev E M d pc' ls (.int (nI 2) :: st) h sz k n Q) : Ev E M d pc ls st h sz k n Q := by
  obtain ⟨hd, rfl⟩ := hd
  exact ev_pure (fun hx hb hL kw => lv_iconst hx hb hd (by decide +kernel) kw) kk
theorem ev_ic3 (hd : ev_d M pc (.iconst 3) 1 pc') (kk : Ev E M d pc' ls (.int (nI 3) :: st) h sz k n Q) : Ev E M d pc ls st h sz k n Q := by
  obtain ⟨hd, rfl⟩ := hd
  exact ev_pure (fun hx hb hL kw => lv_iconst hx hb hd (by decide +kernel) kw) kk
theorem ev_ic4 (hd : ev_d M pc (.iconst 4) 1 pc') (kk : Ev E M d pc' ls (.int (nI 4) :: st) h sz k n Q) : Ev E M d pc ls st h sz k n Q := by
  obtain ⟨hd, rfl⟩ := hd
  exact ev_pure (fun hx hb hL kw => lv_iconst hx hb hd (by decide +kernel) kw) kk
theorem ev_ic5 (hd : ev_d M pc (.iconst 5) 1 pc') (kk : Ev E M d pc' ls (.int (nI 5) :: st) h sz k n Q) : Ev E M d pc ls st h sz k n Q := by
  obtain ⟨hd, rfl⟩ := hd
  exact ev_pure (fun hx hb hL kw => lv_iconst hx hb hd (by decide +kernel) kw) kk
theorem ev_icm (hd : ev_d M pc (.iconst (-1)) 1 pc') (kk : Ev E M d pc' ls (.int (-1) :: st) h sz k n Q) : Ev E M d pc ls st h sz k n Q := by
  obtain ⟨hd, rfl⟩ := hd
  exact ev_pure (fun hx hb hL kw => lv_iconst hx hb hd (by decide +kernel) kw) kk
theorem ev_bipush {j : Int} {c : Nat} (hd : ev_d M pc (.bipush j) 2 pc') (hv : (Int8.ofInt j).toInt32 = nI c) (kk : Ev E M d pc' ls (.int (nI c) :: st) h sz k n Q) : Ev E M d pc ls st h sz k n Q := by
  obtain ⟨hd, rfl⟩ := hd
  exact ev_pure (fun hx hb hL kw => lv_bipush hx hb hd hv kw) kk
theorem ev_sipush {j : Int} {c : Nat} (hd : ev_d M pc (.sipush j) 3 pc') (hv : (Int16.ofInt j).toInt32 = nI c) (kk : Ev E M d pc' ls (.int (nI c) :: st) h sz k n Q) : Ev E M d pc ls st h sz k n Q := by
  obtain ⟨hd, rfl⟩ := hd
  exact ev_pure (fun hx hb hL kw => lv_sipush hx hb hd hv kw) kk
theorem ev_lconst {j : Fin 2} {v : Int64} (hd : ev_d M pc (.lconst j) 1 pc') (hv : Int64.ofNat (j : Nat) = v) (kk : Ev E M d pc' ls (.long v :: st) h sz k n Q) : Ev E M d pc ls st h sz k n Q := by
  obtain ⟨hd, rfl⟩ := hd
  exact ev_pure (fun hx hb hL kw => lv_lconst hx hb hd hv kw) kk
theorem ev_null (hd : ev_d M pc .aconst_null 1 pc') (kk : Ev E M d pc' ls (.null :: st) h sz k n Q) : Ev E M d pc ls st h sz k n Q := by
  obtain ⟨hd, rfl⟩ := hd
  exact ev_pure (fun hx hb hL kw => lv_null hx hb hd kw) kk
theorem ev_iadd {x y z : Int32} (hd : ev_d M pc .iadd 1 pc') (hz : x + y = z) (kk : Ev E M d pc' ls (.int z :: st) h sz k n Q) : Ev E M d pc ls (.int y :: .int x :: st) h sz k n Q := by
  obtain ⟨hd, rfl⟩ := hd
  subst hz
  exact ev_pure (fun hx hb _ kw => lv_iadd hx hb hd kw) kk
theorem ev_isub {x y z : Int32} (hd : ev_d M pc .isub 1 pc') (hz : x - y = z) (kk : Ev E M d pc' ls (.int z :: st) h sz k n Q) : Ev E M d pc ls (.int y :: .int x :: st) h sz k n Q := by
  obtain ⟨hd, rfl⟩ := hd
  subst hz
  exact ev_pure (fun hx hb _ kw => lv_isub hx hb hd kw) kk
theorem ev_imul {x y z : Int32} (hd : ev_d M pc .imul 1 pc') (hz : x * y = z) (kk : Ev E M d pc' ls (.int z :: st) h sz k n Q) : Ev E M d pc ls (.int y :: .int x :: st) h sz k n Q := by
  obtain ⟨hd, rfl⟩ := hd
  subst hz
  exact ev_pure (fun hx hb _ kw => lv_imul hx hb hd kw) kk
theorem ev_iand {x y z : Int32} (hd : ev_d M pc .iand 1 pc') (hz : x &&& y = z) (kk : Ev E M d pc' ls (.int z :: st) h sz k n Q) : Ev E M d pc ls (.int y :: .int x :: st) h sz k n Q := by
  obtain ⟨hd, rfl⟩ := hd
  subst hz
  exact ev_pure (fun hx hb _ kw => lv_iand hx hb hd kw) kk
theorem ev_ior {x y z : Int32} (hd : ev_d M pc .ior 1 pc') (hz : x ||| y = z) (kk : Ev E M d pc' ls (.int z :: st) h sz k n Q) : Ev E M d pc ls (.int y :: .int x :: st) h sz k n Q := by
  obtain ⟨hd, rfl⟩ := hd
  subst hz
  exact ev_pure (fun hx hb _ kw => lv_ior hx hb hd kw) kk
theorem ev_ixor {x y z : Int32} (hd : ev_d M pc .ixor 1 pc') (hz : x ^^^ y = z) (kk : Ev E M d pc' ls (.int z :: st) h sz k n Q) : Ev E M d pc ls (.int y :: .int x :: st) h sz k n Q := by
  obtain ⟨hd, rfl⟩ := hd
  subst hz
  exact ev_pure (fun hx hb _ kw => lv_ixor hx hb hd kw) kk
theorem ev_ishl {x y z : Int32} (hd : ev_d M pc .ishl 1 pc') (hz : x <<< (y &&& 31) = z) (kk : Ev E M d pc' ls (.int z :: st) h sz k n Q) : Ev E M d pc ls (.int y :: .int x :: st) h sz k n Q := by
  obtain ⟨hd, rfl⟩ := hd
  subst hz
  exact ev_pure (fun hx hb _ kw => lv_ishl hx hb hd kw) kk
theorem ev_ishr {x y z : Int32} (hd : ev_d M pc .ishr 1 pc') (hz : x >>> (y &&& 31) = z) (kk : Ev E M d pc' ls (.int z :: st) h sz k n Q) : Ev E M d pc ls (.int y :: .int x :: st) h sz k n Q := by
  obtain ⟨hd, rfl⟩ := hd
  subst hz
  exact ev_pure (fun hx hb _ kw => lv_ishr hx hb hd kw) kk
theorem ev_lsub {x y z : Int64} (hd : ev_d M pc .lsub 1 pc') (hz : x - y = z) (kk : Ev E M d pc' ls (.long z :: st) h sz k n Q) : Ev E M d pc ls (.long y :: .long x :: st) h sz k n Q := by
  obtain ⟨hd, rfl⟩ := hd
  subst hz
  exact ev_pure (fun hx hb _ kw => lv_lsub hx hb hd kw) kk
theorem ev_addn {x y : Nat} (hd : ev_d M pc .iadd 1 pc') (kk : Ev E M d pc' ls (.int (nI (x + y)) :: st) h sz k n Q) : Ev E M d pc ls (.int (nI y) :: .int (nI x) :: st) h sz k n Q := ev_iadd hd (nI_add x y) kk
theorem ev_i2l {x : Int32} {v : Int64} (hd : ev_d M pc .i2l 1 pc') (hv : x.toInt64 = v) (kk : Ev E M d pc' ls (.long v :: st) h sz k n Q) : Ev E M d pc ls (.int x :: st) h sz k n Q := by
  obtain ⟨hd, rfl⟩ := hd
  exact ev_pure (fun hx hb hL kw => lv_i2l hx hb hd hv kw) kk
theorem ev_dup {a : Value} (hd : ev_d M pc .dup 1 pc') (ha : a.category = 1) (kk : Ev E M d pc' ls (a :: a :: st) h sz k n Q) : Ev E M d pc ls (a :: st) h sz k n Q := by
  obtain ⟨hd, rfl⟩ := hd
  exact ev_pure (fun hx hb hL kw => lv_dup hx hb hd ha kw) kk
theorem ev_pop {a : Value} (hd : ev_d M pc .pop 1 pc') (ha : a.category = 1) (kk : Ev E M d pc' ls st h sz k n Q) : Ev E M d pc ls (a :: st) h sz k n Q := by
  obtain ⟨hd, rfl⟩ := hd
  exact ev_pure (fun hx hb hL kw => lv_pop hx hb hd ha kw) kk
theorem ev_dup2 {a b : Value} (hd : ev_d M pc .dup2 1 pc') (ha : a.category = 1) (hb' : b.category = 1) (kk : Ev E M d pc' ls (a :: b :: a :: b :: st) h sz k n Q) : Ev E M d pc ls (a :: b :: st) h sz k n Q := by
  obtain ⟨hd, rfl⟩ := hd
  exact ev_pure (fun hx hb hL kw => lv_dup2_11 hx hb hd ha hb' kw) kk
theorem ev_dup_x1 {a b : Value} (hd : ev_d M pc .dup_x1 1 pc') (ha : a.category = 1) (hb' : b.category = 1) (kk : Ev E M d pc' ls (a :: b :: a :: st) h sz k n Q) : Ev E M d pc ls (a :: b :: st) h sz k n Q := by
  obtain ⟨hd, rfl⟩ := hd
  exact ev_pure (fun hx hb hL kw => lv_dup_x1 hx hb hd ha hb' kw) kk
theorem ev_goto {off : Int} {tgt : Nat} (hd : ev_d M pc (.goto off) 3 pc') (ht : (pc : Int) + off = (tgt : Int)) (kk : Ev E M d tgt ls st h sz k n Q) : Ev E M d pc ls st h sz k n Q := ev_pure (fun hx hb _ kw => lv_goto hx hb hd.1 ht kw) kk
theorem ev_if_eq {x : Int32} {off : Int} {tgt : Nat} (hd : ev_d M pc (.ifCond .eq off) 3 pc') (ht : (pc : Int) + off = (tgt : Int)) (kt : x = 0 → Ev E M d tgt ls st h sz k n Q) (kf : ¬ (x = 0) → Ev E M d pc' ls st h sz k n Q) : Ev E M d pc ls (.int x :: st) h sz k n Q := by
  obtain ⟨hd, rfl⟩ := hd
  exact ev_br (fun hx hb a b => lv_if_eq hx hb hd ht a b) kt kf
theorem ev_if_eqT {x : Int32} {off : Int} {tgt : Nat} (hd : ev_d M pc (.ifCond .eq off) 3 pc') (ht : (pc : Int) + off = (tgt : Int)) (hp : x = 0) (kt : Ev E M d tgt ls st h sz k n Q) : Ev E M d pc ls (.int x :: st) h sz k n Q := ev_if_eq hd ht (fun _ => kt) (fun q => absurd hp q)
theorem ev_if_eqF {x : Int32} {off : Int} {tgt : Nat} (hd : ev_d M pc (.ifCond .eq off) 3 pc') (ht : (pc : Int) + off = (tgt : Int)) (hp : ¬ (x = 0)) (kf : Ev E M d pc' ls st h sz k n Q) : Ev E M d pc ls (.int x :: st) h sz k n Q := ev_if_eq hd ht (fun q => absurd q hp) (fun _ => kf)
theorem ev_icmp_eq {x y : Int32} {off : Int} {tgt : Nat} (hd : ev_d M pc (.if_icmp .eq off) 3 pc') (ht : (pc : Int) + off = (tgt : Int)) (kt : x = y → Ev E M d tgt ls st h sz k n Q) (kf : ¬ (x = y) → Ev E M d pc' ls st h sz k n Q) : Ev E M d pc ls (.int y :: .int x :: st) h sz k n Q := by
  obtain ⟨hd, rfl⟩ := hd
  exact ev_br (fun hx hb a b => lv_icmp_eq hx hb hd ht a b) kt kf
theorem ev_icmp_eqT {x y : Int32} {off : Int} {tgt : Nat} (hd : ev_d M pc (.if_icmp .eq off) 3 pc') (ht : (pc : Int) + off = (tgt : Int)) (hp : x = y) (kt : Ev E M d tgt ls st h sz k n Q) : Ev E M d pc ls (.int y :: .int x :: st) h sz k n Q := ev_icmp_eq hd ht (fun _ => kt) (fun q => absurd hp q)
theorem ev_icmp_eqF {x y : Int32} {off : Int} {tgt : Nat} (hd : ev_d M pc (.if_icmp .eq off) 3 pc') (ht : (pc : Int) + off = (tgt : Int)) (hp : ¬ (x = y)) (kf : Ev E M d pc' ls st h sz k n Q) : Ev E M d pc ls (.int y :: .int x :: st) h sz k n Q := ev_icmp_eq hd ht (fun q => absurd q hp) (fun _ => kf)
theorem ev_if_ne {x : Int32} {off : Int} {tgt : Nat} (hd : ev_d M pc (.ifCond .ne off) 3 pc') (ht : (pc : Int) + off = (tgt : Int)) (kt : ¬ x = 0 → Ev E M d tgt ls st h sz k n Q) (kf : x = 0 → Ev E M d pc' ls st h sz k n Q) : Ev E M d pc ls (.int x :: st) h sz k n Q := by
  obtain ⟨hd, rfl⟩ := hd
  exact ev_br (fun hx hb a b => lv_if_ne hx hb hd ht a (fun q => b (fun z => z q))) kt (fun q => kf (Classical.not_not.mp q))
theorem ev_if_neT {x : Int32} {off : Int} {tgt : Nat} (hd : ev_d M pc (.ifCond .ne off) 3 pc') (ht : (pc : Int) + off = (tgt : Int)) (hp : ¬ x = 0) (kt : Ev E M d tgt ls st h sz k n Q) : Ev E M d pc ls (.int x :: st) h sz k n Q := ev_if_ne hd ht (fun _ => kt) (fun q => absurd q hp)
theorem ev_if_neF {x : Int32} {off : Int} {tgt : Nat} (hd : ev_d M pc (.ifCond .ne off) 3 pc') (ht : (pc : Int) + off = (tgt : Int)) (hp : x = 0) (kf : Ev E M d pc' ls st h sz k n Q) : Ev E M d pc ls (.int x :: st) h sz k n Q := ev_if_ne hd ht (fun q => absurd hp q) (fun _ => kf)
theorem ev_icmp_ne {x y : Int32} {off : Int} {tgt : Nat} (hd : ev_d M pc (.if_icmp .ne off) 3 pc') (ht : (pc : Int) + off = (tgt : Int)) (kt : ¬ x = y → Ev E M d tgt ls st h sz k n Q) (kf : x = y → Ev E M d pc' ls st h sz k n Q) : Ev E M d pc ls (.int y :: .int x :: st) h sz k n Q := by
  obtain ⟨hd, rfl⟩ := hd
  exact ev_br (fun hx hb a b => lv_icmp_ne hx hb hd ht a (fun q => b (fun z => z q))) kt (fun q => kf (Classical.not_not.mp q))
theorem ev_icmp_neT {x y : Int32} {off : Int} {tgt : Nat} (hd : ev_d M pc (.if_icmp .ne off) 3 pc') (ht : (pc : Int) + off = (tgt : Int)) (hp : ¬ x = y) (kt : Ev E M d tgt ls st h sz k n Q) : Ev E M d pc ls (.int y :: .int x :: st) h sz k n Q := ev_icmp_ne hd ht (fun _ => kt) (fun q => absurd q hp)
theorem ev_icmp_neF {x y : Int32} {off : Int} {tgt : Nat} (hd : ev_d M pc (.if_icmp .ne off) 3 pc') (ht : (pc : Int) + off = (tgt : Int)) (hp : x = y) (kf : Ev E M d pc' ls st h sz k n Q) : Ev E M d pc ls (.int y :: .int x :: st) h sz k n Q := ev_icmp_ne hd ht (fun q => absurd hp q) (fun _ => kf)
theorem ev_if_lt {x : Int32} {off : Int} {tgt : Nat} (hd : ev_d M pc (.ifCond .lt off) 3 pc') (ht : (pc : Int) + off = (tgt : Int)) (kt : x < 0 → Ev E M d tgt ls st h sz k n Q) (kf : ¬ (x < 0) → Ev E M d pc' ls st h sz k n Q) : Ev E M d pc ls (.int x :: st) h sz k n Q := by
  obtain ⟨hd, rfl⟩ := hd
  exact ev_br (fun hx hb a b => lv_if_lt hx hb hd ht a b) kt kf
theorem ev_if_ltT {x : Int32} {off : Int} {tgt : Nat} (hd : ev_d M pc (.ifCond .lt off) 3 pc') (ht : (pc : Int) + off = (tgt : Int)) (hp : x < 0) (kt : Ev E M d tgt ls st h sz k n Q) : Ev E M d pc ls (.int x :: st) h sz k n Q := ev_if_lt hd ht (fun _ => kt) (fun q => absurd hp q)
theorem ev_if_ltF {x : Int32} {off : Int} {tgt : Nat} (hd : ev_d M pc (.ifCond .lt off) 3 pc') (ht : (pc : Int) + off = (tgt : Int)) (hp : ¬ (x < 0)) (kf : Ev E M d pc' ls st h sz k n Q) : Ev E M d pc ls (.int x :: st) h sz k n Q := ev_if_lt hd ht (fun q => absurd q hp) (fun _ => kf)
theorem ev_icmp_lt {x y : Int32} {off : Int} {tgt : Nat} (hd : ev_d M pc (.if_icmp .lt off) 3 pc') (ht : (pc : Int) + off = (tgt : Int)) (kt : x < y → Ev E M d tgt ls st h sz k n Q) (kf : ¬ (x < y) → Ev E M d pc' ls st h sz k n Q) : Ev E M d pc ls (.int y :: .int x :: st) h sz k n Q := by
  obtain ⟨hd, rfl⟩ := hd
  exact ev_br (fun hx hb a b => lv_icmp_lt hx hb hd ht a b) kt kf
theorem ev_icmp_ltT {x y : Int32} {off : Int} {tgt : Nat} (hd : ev_d M pc (.if_icmp .lt off) 3 pc') (ht : (pc : Int) + off = (tgt : Int)) (hp : x < y) (kt : Ev E M d tgt ls st h sz k n Q) : Ev E M d pc ls (.int y :: .int x :: st) h sz k n Q := ev_icmp_lt hd ht (fun _ => kt) (fun q => absurd hp q)
theorem ev_icmp_ltF {x y : Int32} {off : Int} {tgt : Nat} (hd : ev_d M pc (.if_icmp .lt off) 3 pc') (ht : (pc : Int) + off = (tgt : Int)) (hp : ¬ (x < y)) (kf : Ev E M d pc' ls st h sz k n Q) : Ev E M d pc ls (.int y :: .int x :: st) h sz k n Q := ev_icmp_lt hd ht (fun q => absurd q hp) (fun _ => kf)
theorem ev_if_ge {x : Int32} {off : Int} {tgt : Nat} (hd : ev_d M pc (.ifCond .ge off) 3 pc') (ht : (pc : Int) + off = (tgt : Int)) (kt : 0 ≤ x → Ev E M d tgt ls st h sz k n Q) (kf : ¬ (0 ≤ x) → Ev E M d pc' ls st h sz k n Q) : Ev E M d pc ls (.int x :: st) h sz k n Q := by
  obtain ⟨hd, rfl⟩ := hd
  exact ev_br (fun hx hb a b => lv_if_ge hx hb hd ht a b) kt kf
theorem ev_if_geT {x : Int32} {off : Int} {tgt : Nat} (hd : ev_d M pc (.ifCond .ge off) 3 pc') (ht : (pc : Int) + off = (tgt : Int)) (hp : 0 ≤ x) (kt : Ev E M d tgt ls st h sz k n Q) : Ev E M d pc ls (.int x :: st) h sz k n Q := ev_if_ge hd ht (fun _ => kt) (fun q => absurd hp q)
theorem ev_if_geF {x : Int32} {off : Int} {tgt : Nat} (hd : ev_d M pc (.ifCond .ge off) 3 pc') (ht : (pc : Int) + off = (tgt : Int)) (hp : ¬ (0 ≤ x)) (kf : Ev E M d pc' ls st h sz k n Q) : Ev E M d pc ls (.int x :: st) h sz k n Q := ev_if_ge hd ht (fun q => absurd q hp) (fun _ => kf)
theorem ev_icmp_ge {x y : Int32} {off : Int} {tgt : Nat} (hd : ev_d M pc (.if_icmp .ge off) 3 pc') (ht : (pc : Int) + off = (tgt : Int)) (kt : y ≤ x → Ev E M d tgt ls st h sz k n Q) (kf : ¬ (y ≤ x) → Ev E M d pc' ls st h sz k n Q) : Ev E M d pc ls (.int y :: .int x :: st) h sz k n Q := by
  obtain ⟨hd, rfl⟩ := hd
  exact ev_br (fun hx hb a b => lv_icmp_ge hx hb hd ht a b) kt kf
theorem ev_icmp_geT {x y : Int32} {off : Int} {tgt : Nat} (hd : ev_d M pc (.if_icmp .ge off) 3 pc') (ht : (pc : Int) + off = (tgt : Int)) (hp : y ≤ x) (kt : Ev E M d tgt ls st h sz k n Q) : Ev E M d pc ls (.int y :: .int x :: st) h sz k n Q := ev_icmp_ge hd ht (fun _ => kt) (fun q => absurd hp q)
theorem ev_icmp_geF {x y : Int32} {off : Int} {tgt : Nat} (hd : ev_d M pc (.if_icmp .ge off) 3 pc') (ht : (pc : Int) + off = (tgt : Int)) (hp : ¬ (y ≤ x)) (kf : Ev E M d pc' ls st h sz k n Q) : Ev E M d pc ls (.int y :: .int x :: st) h sz k n Q := ev_icmp_ge hd ht (fun q => absurd q hp) (fun _ => kf)
theorem ev_if_gt {x : Int32} {off : Int} {tgt : Nat} (hd : ev_d M pc (.ifCond .gt off) 3 pc') (ht : (pc : Int) + off = (tgt : Int)) (kt : 0 < x → Ev E M d tgt ls st h sz k n Q) (kf : ¬ (0 < x) → Ev E M d pc' ls st h sz k n Q) : Ev E M d pc ls (.int x :: st) h sz k n Q := by
  obtain ⟨hd, rfl⟩ := hd
  exact ev_br (fun hx hb a b => lv_if_gt hx hb hd ht a b) kt kf
theorem ev_if_gtT {x : Int32} {off : Int} {tgt : Nat} (hd : ev_d M pc (.ifCond .gt off) 3 pc') (ht : (pc : Int) + off = (tgt : Int)) (hp : 0 < x) (kt : Ev E M d tgt ls st h sz k n Q) : Ev E M d pc ls (.int x :: st) h sz k n Q := ev_if_gt hd ht (fun _ => kt) (fun q => absurd hp q)
theorem ev_if_gtF {x : Int32} {off : Int} {tgt : Nat} (hd : ev_d M pc (.ifCond .gt off) 3 pc') (ht : (pc : Int) + off = (tgt : Int)) (hp : ¬ (0 < x)) (kf : Ev E M d pc' ls st h sz k n Q) : Ev E M d pc ls (.int x :: st) h sz k n Q := ev_if_gt hd ht (fun q => absurd q hp) (fun _ => kf)
theorem ev_icmp_gt {x y : Int32} {off : Int} {tgt : Nat} (hd : ev_d M pc (.if_icmp .gt off) 3 pc') (ht : (pc : Int) + off = (tgt : Int)) (kt : y < x → Ev E M d tgt ls st h sz k n Q) (kf : ¬ (y < x) → Ev E M d pc' ls st h sz k n Q) : Ev E M d pc ls (.int y :: .int x :: st) h sz k n Q := by
  obtain ⟨hd, rfl⟩ := hd
  exact ev_br (fun hx hb a b => lv_icmp_gt hx hb hd ht a b) kt kf
theorem ev_icmp_gtT {x y : Int32} {off : Int} {tgt : Nat} (hd : ev_d M pc (.if_icmp .gt off) 3 pc') (ht : (pc : Int) + off = (tgt : Int)) (hp : y < x) (kt : Ev E M d tgt ls st h sz k n Q) : Ev E M d pc ls (.int y :: .int x :: st) h sz k n Q := ev_icmp_gt hd ht (fun _ => kt) (fun q => absurd hp q)
theorem ev_icmp_gtF {x y : Int32} {off : Int} {tgt : Nat} (hd : ev_d M pc (.if_icmp .gt off) 3 pc') (ht : (pc : Int) + off = (tgt : Int)) (hp : ¬ (y < x)) (kf : Ev E M d pc' ls st h sz k n Q) : Ev E M d pc ls (.int y :: .int x :: st) h sz k n Q := ev_icmp_gt hd ht (fun q => absurd q hp) (fun _ => kf)
theorem ev_if_le {x : Int32} {off : Int} {tgt : Nat} (hd : ev_d M pc (.ifCond .le off) 3 pc') (ht : (pc : Int) + off = (tgt : Int)) (kt : x ≤ 0 → Ev E M d tgt ls st h sz k n Q) (kf : ¬ (x ≤ 0) → Ev E M d pc' ls st h sz k n Q) : Ev E M d pc ls (.int x :: st) h sz k n Q := by
  obtain ⟨hd, rfl⟩ := hd
  exact ev_br (fun hx hb a b => lv_if_le hx hb hd ht a b) kt kf
theorem ev_if_leT {x : Int32} {off : Int} {tgt : Nat} (hd : ev_d M pc (.ifCond .le off) 3 pc') (ht : (pc : Int) + off = (tgt : Int)) (hp : x ≤ 0) (kt : Ev E M d tgt ls st h sz k n Q) : Ev E M d pc ls (.int x :: st) h sz k n Q := ev_if_le hd ht (fun _ => kt) (fun q => absurd hp q)
theorem ev_if_leF {x : Int32} {off : Int} {tgt : Nat} (hd : ev_d M pc (.ifCond .le off) 3 pc') (ht : (pc : Int) + off = (tgt : Int)) (hp : ¬ (x ≤ 0)) (kf : Ev E M d pc' ls st h sz k n Q) : Ev E M d pc ls (.int x :: st) h sz k n Q := ev_if_le hd ht (fun q => absurd q hp) (fun _ => kf)
theorem ev_icmp_le {x y : Int32} {off : Int} {tgt : Nat} (hd : ev_d M pc (.if_icmp .le off) 3 pc') (ht : (pc : Int) + off = (tgt : Int)) (kt : x ≤ y → Ev E M d tgt ls st h sz k n Q) (kf : ¬ (x ≤ y) → Ev E M d pc' ls st h sz k n Q) : Ev E M d pc ls (.int y :: .int x :: st) h sz k n Q := by
  obtain ⟨hd, rfl⟩ := hd
  exact ev_br (fun hx hb a b => lv_icmp_le hx hb hd ht a b) kt kf
theorem ev_icmp_leT {x y : Int32} {off : Int} {tgt : Nat} (hd : ev_d M pc (.if_icmp .le off) 3 pc') (ht : (pc : Int) + off = (tgt : Int)) (hp : x ≤ y) (kt : Ev E M d tgt ls st h sz k n Q) : Ev E M d pc ls (.int y :: .int x :: st) h sz k n Q := ev_icmp_le hd ht (fun _ => kt) (fun q => absurd hp q)
theorem ev_icmp_leF {x y : Int32} {off : Int} {tgt : Nat} (hd : ev_d M pc (.if_icmp .le off) 3 pc') (ht : (pc : Int) + off = (tgt : Int)) (hp : ¬ (x ≤ y)) (kf : Ev E M d pc' ls st h sz k n Q) : Ev E M d pc ls (.int y :: .int x :: st) h sz k n Q := ev_icmp_le hd ht (fun q => absurd q hp) (fun _ => kf)
theorem ev_ifnull_r {x : Nat} {off : Int} (hd : ev_d M pc (.ifnull off) 3 pc') (kk : Ev E M d pc' ls st h sz k n Q) : Ev E M d pc ls (.ref x :: st) h sz k n Q := by
  obtain ⟨hd, rfl⟩ := hd
  exact ev_pure (fun hx hb _ kw => lv_ifnull hx hb hd kw) kk
theorem ev_ifnull_n {off : Int} {tgt : Nat} (hd : ev_d M pc (.ifnull off) 3 pc') (ht : (pc : Int) + off = (tgt : Int)) (kk : Ev E M d tgt ls st h sz k n Q) : Ev E M d pc ls (.null :: st) h sz k n Q := ev_pure (fun hx hb _ kw => lv_ifnullN hx hb hd.1 ht kw) kk
theorem ev_ifnonnull_r {x : Nat} {off : Int} {tgt : Nat} (hd : ev_d M pc (.ifnonnull off) 3 pc') (ht : (pc : Int) + off = (tgt : Int)) (kk : Ev E M d tgt ls st h sz k n Q) : Ev E M d pc ls (.ref x :: st) h sz k n Q := ev_pure (fun hx hb _ kw => lv_ifnonnull hx hb hd.1 ht kw) kk
theorem ev_ifnonnull_n {off : Int} (hd : ev_d M pc (.ifnonnull off) 3 pc') (kk : Ev E M d pc' ls st h sz k n Q) : Ev E M d pc ls (.null :: st) h sz k n Q := by
  obtain ⟨hd, rfl⟩ := hd
  exact ev_pure (fun hx hb _ kw => lv_ifnonnullN hx hb hd kw) kk
end EVF
