/-! Ev: a local is forgotten (written by gen_fg.py). -/
section EFG
variable {E : ev_E} {M : ev_M} {d pc : Nat} {r : List (Option Value)} {st : List Value} {h : ev_h} {sz k n : Nat} {Q : ev_Q}
theorem ev_fg_0 {v0 : Option Value} (kk : Ev E M d pc (none :: r) st h sz k n Q) : Ev E M d pc (v0 :: r) st h sz k n Q := by
  refine ev_less (fun j w hj => ?_) kk
  cases j with
  | zero => cases hj
  | succ j =>
  exact hj
theorem ev_fg_1 {v0 v1 : Option Value} (kk : Ev E M d pc (v0 :: none :: r) st h sz k n Q) : Ev E M d pc (v0 :: v1 :: r) st h sz k n Q := by
  refine ev_less (fun j w hj => ?_) kk
  cases j with
  | zero => exact hj
  | succ j =>
  cases j with
  | zero => cases hj
  | succ j =>
  exact hj
theorem ev_fg_2 {v0 v1 v2 : Option Value} (kk : Ev E M d pc (v0 :: v1 :: none :: r) st h sz k n Q) : Ev E M d pc (v0 :: v1 :: v2 :: r) st h sz k n Q := by
  refine ev_less (fun j w hj => ?_) kk
  cases j with
  | zero => exact hj
  | succ j =>
  cases j with
  | zero => exact hj
  | succ j =>
  cases j with
  | zero => cases hj
  | succ j =>
  exact hj
theorem ev_fg_3 {v0 v1 v2 v3 : Option Value} (kk : Ev E M d pc (v0 :: v1 :: v2 :: none :: r) st h sz k n Q) : Ev E M d pc (v0 :: v1 :: v2 :: v3 :: r) st h sz k n Q := by
  refine ev_less (fun j w hj => ?_) kk
  cases j with
  | zero => exact hj
  | succ j =>
  cases j with
  | zero => exact hj
  | succ j =>
  cases j with
  | zero => exact hj
  | succ j =>
  cases j with
  | zero => cases hj
  | succ j =>
  exact hj
theorem ev_fg_4 {v0 v1 v2 v3 v4 : Option Value} (kk : Ev E M d pc (v0 :: v1 :: v2 :: v3 :: none :: r) st h sz k n Q) : Ev E M d pc (v0 :: v1 :: v2 :: v3 :: v4 :: r) st h sz k n Q := by
  refine ev_less (fun j w hj => ?_) kk
  cases j with
  | zero => exact hj
  | succ j =>
  cases j with
  | zero => exact hj
  | succ j =>
  cases j with
  | zero => exact hj
  | succ j =>
  cases j with
  | zero => exact hj
  | succ j =>
  cases j with
  | zero => cases hj
  | succ j =>
  exact hj
theorem ev_fg_5 {v0 v1 v2 v3 v4 v5 : Option Value} (kk : Ev E M d pc (v0 :: v1 :: v2 :: v3 :: v4 :: none :: r) st h sz k n Q) : Ev E M d pc (v0 :: v1 :: v2 :: v3 :: v4 :: v5 :: r) st h sz k n Q := by
  refine ev_less (fun j w hj => ?_) kk
  cases j with
  | zero => exact hj
  | succ j =>
  cases j with
  | zero => exact hj
  | succ j =>
  cases j with
  | zero => exact hj
  | succ j =>
  cases j with
  | zero => exact hj
  | succ j =>
  cases j with
  | zero => exact hj
  | succ j =>
  cases j with
  | zero => cases hj
  | succ j =>
  exact hj
theorem ev_fg_6 {v0 v1 v2 v3 v4 v5 v6 : Option Value} (kk : Ev E M d pc (v0 :: v1 :: v2 :: v3 :: v4 :: v5 :: none :: r) st h sz k n Q) : Ev E M d pc (v0 :: v1 :: v2 :: v3 :: v4 :: v5 :: v6 :: r) st h sz k n Q := by
  refine ev_less (fun j w hj => ?_) kk
  cases j with
  | zero => exact hj
  | succ j =>
  cases j with
  | zero => exact hj
  | succ j =>
  cases j with
  | zero => exact hj
  | succ j =>
  cases j with
  | zero => exact hj
  | succ j =>
  cases j with
  | zero => exact hj
  | succ j =>
  cases j with
  | zero => exact hj
  | succ j =>
  cases j with
  | zero => cases hj
  | succ j =>
  exact hj
theorem ev_fg_7 {v0 v1 v2 v3 v4 v5 v6 v7 : Option Value} (kk : Ev E M d pc (v0 :: v1 :: v2 :: v3 :: v4 :: v5 :: v6 :: none :: r) st h sz k n Q) : Ev E M d pc (v0 :: v1 :: v2 :: v3 :: v4 :: v5 :: v6 :: v7 :: r) st h sz k n Q := by
  refine ev_less (fun j w hj => ?_) kk
  cases j with
  | zero => exact hj
  | succ j =>
  cases j with
  | zero => exact hj
  | succ j =>
  cases j with
  | zero => exact hj
  | succ j =>
  cases j with
  | zero => exact hj
  | succ j =>
  cases j with
  | zero => exact hj
  | succ j =>
  cases j with
  | zero => exact hj
  | succ j =>
  cases j with
  | zero => exact hj
  | succ j =>
  cases j with
  | zero => cases hj
  | succ j =>
  exact hj
theorem ev_fg_8 {v0 v1 v2 v3 v4 v5 v6 v7 v8 : Option Value} (kk : Ev E M d pc (v0 :: v1 :: v2 :: v3 :: v4 :: v5 :: v6 :: v7 :: none :: r) st h sz k n Q) : Ev E M d pc (v0 :: v1 :: v2 :: v3 :: v4 :: v5 :: v6 :: v7 :: v8 :: r) st h sz k n Q := by
  refine ev_less (fun j w hj => ?_) kk
  cases j with
  | zero => exact hj
  | succ j =>
  cases j with
  | zero => exact hj
  | succ j =>
  cases j with
  | zero => exact hj
  | succ j =>
  cases j with
  | zero => exact hj
  | succ j =>
  cases j with
  | zero => exact hj
  | succ j =>
  cases j with
  | zero => exact hj
  | succ j =>
  cases j with
  | zero => exact hj
  | succ j =>
  cases j with
  | zero => exact hj
  | succ j =>
  cases j with
  | zero => cases hj
  | succ j =>
  exact hj
theorem ev_fg_9 {v0 v1 v2 v3 v4 v5 v6 v7 v8 v9 : Option Value} (kk : Ev E M d pc (v0 :: v1 :: v2 :: v3 :: v4 :: v5 :: v6 :: v7 :: v8 :: none :: r) st h sz k n Q) : Ev E M d pc (v0 :: v1 :: v2 :: v3 :: v4 :: v5 :: v6 :: v7 :: v8 :: v9 :: r) st h sz k n Q := by
  refine ev_less (fun j w hj => ?_) kk
  cases j with
  | zero => exact hj
  | succ j =>
  cases j with
  | zero => exact hj
  | succ j =>
  cases j with
  | zero => exact hj
  | succ j =>
  cases j with
  | zero => exact hj
  | succ j =>
  cases j with
  | zero => exact hj
  | succ j =>
  cases j with
  | zero => exact hj
  | succ j =>
  cases j with
  | zero => exact hj
  | succ j =>
  cases j with
  | zero => exact hj
  | succ j =>
  cases j with
  | zero => exact hj
  | succ j =>
  cases j with
  | zero => cases hj
  | succ j =>
  exact hj
end EFG
