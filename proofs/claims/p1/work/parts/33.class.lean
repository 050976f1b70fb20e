set_option maxRecDepth 20000 in
theorem j_bc0 {d : Nat} {hp : px_H} : px_Go d 0 (0, [(0, .long 0)], [], hp) (.inl (some (.int 0)), hp) := by
  refine px_a 48 (f' := (60, [(0, .long 0)], [.int 0], hp)) rfl ?_
  exact px_ri rfl rfl rfl
set_option maxRecDepth 20000 in
theorem c_reach_0 {d : Nat} {hp : px_H} {b2 b3 b4 b5 b6 : Nat} {fd : Int32} {sh : Int64} {w h : Int32} {re : Int64} {to : Int32} (hc : hp[(8 : Nat)]? = some (3, [.int w, .int h, .ref b2, .ref b3, .ref b4, .ref b5, .ref b6, .int 0, .long sh, .int fd])) : px_Go d 60 (0, [(0, .ref 8), (1, .long re), (3, .int to)], [], hp) (.inl (some (.int 0)), hp) := by
  refine px_a 4 (f' := (6, [(4, .int 0), (0, .ref 8), (1, .long re), (3, .int to)], [.ref 8, .int 0], hp)) rfl ?_
  refine px_gf 8 72 3 7 (.int 0) rfl rfl hc rfl ?_
  show px_Go _ _ (9, [(4, .int 0), (0, .ref 8), (1, .long re), (3, .int to)], [.int 0, .int 0], hp) _
  refine px_a 2 (f' := (57, [(4, .int 0), (0, .ref 8), (1, .long re), (3, .int to)], [.int 0], hp)) rfl ?_
  exact px_ri rfl rfl rfl
set_option maxRecDepth 20000 in
theorem c_sizes_l {d : Nat} {hp : px_H} {b2 b3 b4 b5 b6 : Nat} {fd : Int32}  {w h : Int32} (hc : hp[(8 : Nat)]? = some (3, [.int w, .int h, .ref b2, .ref b3, .ref b4, .ref b5, .ref b6, .int 0, .long 0, .int fd])) : ∀ (k i : Nat), i + k = 37 → px_Go (d + 1) 63 (4, [(3, .int (nI i)), (1, .long 1), (0, .ref 8)], [], hp) (.inl (some (.int 1)), hp) := by
  intro k
  induction k with
  | zero =>
    intro i hi
    refine px_a 2 (f' := (7, [(3, .int (nI i)), (1, .long 1), (0, .ref 8)], [.int 36, .int (nI i)], hp)) rfl ?_
    refine px_b2 true 31 rfl rfl (decide_eq_true (by show nI 36 < nI i; exact nI_lt (by omega) (by omega))) ?_
    show px_Go _ _ (31, [(3, .int (nI i)), (1, .long 1), (0, .ref 8)], [], hp) _
    refine px_a 2 (f' := (33, [(3, .int (nI i)), (1, .long 1), (0, .ref 8)], [.ref 8, .long 1], hp)) rfl ?_
    refine px_gf 8 64 3 8 (.long 0) rfl rfl hc rfl ?_
    show px_Go _ _ (36, [(3, .int (nI i)), (1, .long 1), (0, .ref 8)], [.long 0, .long 1], hp) _
    refine px_cl (as := [.long 0]) (rest := [.long 1]) rfl rfl (j_bc0) ?_
    show px_Go _ _ (39, [(3, .int (nI i)), (1, .long 1), (0, .ref 8)], [.int 0, .long 1], hp) _
    refine px_a 8 (f' := (52, [(3, .int (nI i)), (1, .long 1), (0, .ref 8)], [.int 1], hp)) rfl ?_
    exact px_ri rfl rfl rfl
  | succ k ih =>
    intro i hi
    refine px_a 2 (f' := (7, [(3, .int (nI i)), (1, .long 1), (0, .ref 8)], [.int 36, .int (nI i)], hp)) rfl ?_
    refine px_b2 false 31 rfl rfl (decide_eq_false (by show ¬ nI 36 < nI i; exact nI_nlt (by omega) (by decide))) ?_
    show px_Go _ _ (10, [(3, .int (nI i)), (1, .long 1), (0, .ref 8)], [], hp) _
    refine px_a 3 (f' := (13, [(3, .int (nI i)), (1, .long 1), (0, .ref 8)], [.int (nI i), .long 1, .ref 8], hp)) rfl ?_
    refine px_cv 8 (as := [.long 1, .int (nI i)]) (rest := []) rfl rfl hc rfl rfl rfl rfl (Nat.le_of_ble_eq_true rfl) (c_reach_0 hc) ?_
    show px_Go _ _ (16, [(3, .int (nI i)), (1, .long 1), (0, .ref 8)], [.int 0], hp) _
    refine px_a 3 (f' := (4, [(3, .int ((nI i) + 1)), (1, .long 1), (0, .ref 8)], [], hp)) rfl ?_
    rw [nI_1]
    exact ih (i + 1) (by omega)
set_option maxRecDepth 20000 in
theorem c_sizes_0 {d : Nat} {hp : px_H} {b2 b3 b4 b5 b6 : Nat} {fd : Int32}  {w h : Int32} (hc : hp[(8 : Nat)]? = some (3, [.int w, .int h, .ref b2, .ref b3, .ref b4, .ref b5, .ref b6, .int 0, .long 0, .int fd])) : px_Go (d + 1) 63 (0, [(0, .ref 8)], [], hp) (.inl (some (.int 1)), hp) := by
  refine px_a 4 (f' := (4, [(3, .int 1), (1, .long 1), (0, .ref 8)], [], hp)) rfl ?_
  exact c_sizes_l hc 36 1 (by omega)
set_option maxRecDepth 20000 in
theorem c_over_l {d : Nat} {hp : px_H} {b2 b3 b4 b5 b6 : Nat} {fc fd : Int32} {sh : Int64} {w h : Int32} (hc : hp[(8 : Nat)]? = some (3, [.int w, .int h, .ref b2, .ref b3, .ref b4, .ref b5, .ref b6, .int fc, .long sh, .int fd])) {vo : List Value} {n : Nat} (hw : hp[b3]? = some (10, vo)) (hl : vo.length.toInt32 = nI n) (hn36 : n ≤ 36) : ∀ (k i : Nat), i + k = n → px_Go d 55 (5, [(4, .int (nI i)), (3, .int 0), (0, .ref 8), (1, .long 0)], [], hp) (.inl (some (.int 0)), hp) := by
  intro k
  induction k with
  | zero =>
    intro i hi
    refine px_a 2 (f' := (8, [(4, .int (nI i)), (3, .int 0), (0, .ref 8), (1, .long 0)], [.ref 8, .int (nI i)], hp)) rfl ?_
    refine px_gf 8 34 3 3 (.ref b3) rfl rfl hc rfl ?_
    show px_Go _ _ (11, [(4, .int (nI i)), (3, .int 0), (0, .ref 8), (1, .long 0)], [.ref b3, .int (nI i)], hp) _
    refine px_len_ b3 rfl hw (by decide) (by decide) ?_
    rw [hl]
    show px_Go _ _ (12, [(4, .int (nI i)), (3, .int 0), (0, .ref 8), (1, .long 0)], [.int (nI n), .int (nI i)], hp) _
    refine px_b2 true 42 rfl rfl (decide_eq_true (nI_le (by omega) (by omega))) ?_
    show px_Go _ _ (42, [(4, .int (nI i)), (3, .int 0), (0, .ref 8), (1, .long 0)], [], hp) _
    refine px_a 1 (f' := (43, [(4, .int (nI i)), (3, .int 0), (0, .ref 8), (1, .long 0)], [.int 0], hp)) rfl ?_
    exact px_ri rfl rfl rfl
  | succ k ih =>
    intro i hi
    refine px_a 2 (f' := (8, [(4, .int (nI i)), (3, .int 0), (0, .ref 8), (1, .long 0)], [.ref 8, .int (nI i)], hp)) rfl ?_
    refine px_gf 8 34 3 3 (.ref b3) rfl rfl hc rfl ?_
    show px_Go _ _ (11, [(4, .int (nI i)), (3, .int 0), (0, .ref 8), (1, .long 0)], [.ref b3, .int (nI i)], hp) _
    refine px_len_ b3 rfl hw (by decide) (by decide) ?_
    rw [hl]
    show px_Go _ _ (12, [(4, .int (nI i)), (3, .int 0), (0, .ref 8), (1, .long 0)], [.int (nI n), .int (nI i)], hp) _
    refine px_b2 false 42 rfl rfl (decide_eq_false (nI_ge (by omega) (by omega))) ?_
    show px_Go _ _ (15, [(4, .int (nI i)), (3, .int 0), (0, .ref 8), (1, .long 0)], [], hp) _
    refine px_a 7 (f' := (23, [(4, .int (nI i)), (3, .int 0), (0, .ref 8), (1, .long 0)], [.int (lg_cmp ((0 >>> (Int32.toInt64 (nI i) &&& 63)) &&& 1) 0)], hp)) rfl ?_
    refine px_b1 true 36 rfl rfl (decide_eq_true (px_z0 _)) ?_
    show px_Go _ _ (36, [(4, .int (nI i)), (3, .int 0), (0, .ref 8), (1, .long 0)], [], hp) _
    refine px_a 2 (f' := (5, [(4, .int ((nI i) + 1)), (3, .int 0), (0, .ref 8), (1, .long 0)], [], hp)) rfl ?_
    rw [nI_1]
    exact ih (i + 1) (by omega)
set_option maxRecDepth 20000 in
theorem c_over_0 {d : Nat} {hp : px_H} {b2 b3 b4 b5 b6 : Nat} {fc fd : Int32} {sh : Int64} {w h : Int32} (hc : hp[(8 : Nat)]? = some (3, [.int w, .int h, .ref b2, .ref b3, .ref b4, .ref b5, .ref b6, .int fc, .long sh, .int fd])) {vo : List Value} {n : Nat} (hw : hp[b3]? = some (10, vo)) (hl : vo.length.toInt32 = nI n) (hn36 : n ≤ 36) : px_Go d 55 (0, [(0, .ref 8), (1, .long 0)], [], hp) (.inl (some (.int 0)), hp) := by
  refine px_a 4 (f' := (5, [(4, .int 0), (3, .int 0), (0, .ref 8), (1, .long 0)], [], hp)) rfl ?_
  exact c_over_l hc hw hl hn36 n 0 (by omega)
set_option maxRecDepth 20000 in
theorem c_sum_0 {d : Nat} {hp : px_H} {b2 b3 b4 b5 b6 : Nat} {fc fd : Int32}  {w h : Int32} (hc : hp[(8 : Nat)]? = some (3, [.int w, .int h, .ref b2, .ref b3, .ref b4, .ref b5, .ref b6, .int fc, .long 0, .int fd])) {vo : List Value} {n : Nat} (hw : hp[b3]? = some (10, vo)) (hl : vo.length.toInt32 = nI n) (hn36 : n ≤ 36) : px_Go (d + 1) 65 (0, [(0, .ref 8)], [], hp) (.inl (some (.int 0)), hp) := by
  refine px_a 2 (f' := (2, [(0, .ref 8)], [.ref 8, .ref 8], hp)) rfl ?_
  refine px_gf 8 64 3 8 (.long 0) rfl rfl hc rfl ?_
  show px_Go _ _ (5, [(0, .ref 8)], [.long 0, .ref 8], hp) _
  refine px_cv 8 (as := [.long 0]) (rest := []) rfl rfl hc rfl rfl rfl rfl (Nat.le_of_ble_eq_true rfl) (c_over_0 hc hw hl hn36) ?_
  show px_Go _ _ (8, [(0, .ref 8)], [.int 0], hp) _
  exact px_ri rfl rfl rfl
set_option maxRecDepth 20000 in
theorem c_bad_1 {d : Nat} {hp : px_H}     {q : Int32} (h1 : ¬ 2 ≤ q) : px_Go d 44 (0, [(0, .ref 8), (1, .int q)], [], hp) (.inl (some (.int (-1))), hp) := by
  refine px_a 2 (f' := (2, [(0, .ref 8), (1, .int q)], [.int 2, .int q], hp)) rfl ?_
  refine px_b2 false 7 rfl rfl (decide_eq_false h1) ?_
  show px_Go _ _ (5, [(0, .ref 8), (1, .int q)], [], hp) _
  refine px_a 1 (f' := (6, [(0, .ref 8), (1, .int q)], [.int (-1)], hp)) rfl ?_
  exact px_ri rfl rfl rfl
set_option maxRecDepth 20000 in
theorem c_bad_2 {d : Nat} {hp : px_H} {b2 b3 b4 b5 b6 : Nat} {fd : Int32} {sh : Int64} {w h : Int32} {q : Int32} (hc : hp[(8 : Nat)]? = some (3, [.int w, .int h, .ref b2, .ref b3, .ref b4, .ref b5, .ref b6, .int 0, .long sh, .int fd])) (h1 : 2 ≤ q) : px_Go d 44 (0, [(0, .ref 8), (1, .int q)], [], hp) (.inl (some (.int 0)), hp) := by
  refine px_a 2 (f' := (2, [(0, .ref 8), (1, .int q)], [.int 2, .int q], hp)) rfl ?_
  refine px_b2 true 7 rfl rfl (decide_eq_true h1) ?_
  show px_Go _ _ (7, [(0, .ref 8), (1, .int q)], [], hp) _
  refine px_a 6 (f' := (13, [(3, .int 0), (2, .int 0), (0, .ref 8), (1, .int q)], [.ref 8, .int 0], hp)) rfl ?_
  refine px_gf 8 72 3 7 (.int 0) rfl rfl hc rfl ?_
  show px_Go _ _ (16, [(3, .int 0), (2, .int 0), (0, .ref 8), (1, .int q)], [.int 0, .int 0], hp) _
  refine px_a 2 (f' := (82, [(3, .int 0), (2, .int 0), (0, .ref 8), (1, .int q)], [.int 0], hp)) rfl ?_
  exact px_ri rfl rfl rfl
set_option maxRecDepth 20000 in
theorem c_proves_1 {d : Nat} {hp : px_H}     {q : Int32} (h1 : ¬ 2 ≤ q) : px_Go d 59 (0, [(0, .ref 8), (1, .int q)], [], hp) (.inl (some (.int 0)), hp) := by
  refine px_a 2 (f' := (2, [(0, .ref 8), (1, .int q)], [.int 2, .int q], hp)) rfl ?_
  refine px_b2 false 7 rfl rfl (decide_eq_false h1) ?_
  show px_Go _ _ (5, [(0, .ref 8), (1, .int q)], [], hp) _
  refine px_a 1 (f' := (6, [(0, .ref 8), (1, .int q)], [.int 0], hp)) rfl ?_
  exact px_ri rfl rfl rfl
set_option maxRecDepth 20000 in
theorem c_proves_2 {d : Nat} {hp : px_H} {b2 b3 b4 b5 b6 : Nat} {fc fd : Int32}  {w h : Int32} {q : Int32} (hc : hp[(8 : Nat)]? = some (3, [.int w, .int h, .ref b2, .ref b3, .ref b4, .ref b5, .ref b6, .int fc, .long 0, .int fd])) {vo : List Value} {n : Nat} (hw : hp[b3]? = some (10, vo)) (hl : vo.length.toInt32 = nI n) (hn36 : n ≤ 36) (h1 : 2 ≤ q) (hq0 : ¬ q = 0) : px_Go (d + 1) 59 (0, [(0, .ref 8), (1, .int q)], [], hp) (.inl (some (.int 0)), hp) := by
  refine px_a 2 (f' := (2, [(0, .ref 8), (1, .int q)], [.int 2, .int q], hp)) rfl ?_
  refine px_b2 true 7 rfl rfl (decide_eq_true h1) ?_
  show px_Go _ _ (7, [(0, .ref 8), (1, .int q)], [], hp) _
  refine px_a 2 (f' := (9, [(0, .ref 8), (1, .int q)], [.ref 8, .ref 8], hp)) rfl ?_
  refine px_gf 8 64 3 8 (.long 0) rfl rfl hc rfl ?_
  show px_Go _ _ (12, [(0, .ref 8), (1, .int q)], [.long 0, .ref 8], hp) _
  refine px_cv 8 (as := [.long 0]) (rest := []) rfl rfl hc rfl rfl rfl rfl (Nat.le_of_ble_eq_true rfl) (c_over_0 hc hw hl hn36) ?_
  show px_Go _ _ (15, [(0, .ref 8), (1, .int q)], [.int 0], hp) _
  refine px_a 1 (f' := (16, [(0, .ref 8), (1, .int q)], [.int q, .int 0], hp)) rfl ?_
  refine px_irem rfl (hq0) ?_
  refine px_b1 true 32 rfl rfl (decide_eq_true (px_zr q)) ?_
  show px_Go _ _ (32, [(0, .ref 8), (1, .int q)], [], hp) _
  refine px_a 1 (f' := (33, [(0, .ref 8), (1, .int q)], [.int 0], hp)) rfl ?_
  exact px_ri rfl rfl rfl
set_option maxRecDepth 20000 in
theorem c_trace_0 {d : Nat} {hp : px_H} {b6 : Nat} {e2 e3 e4 : Nat} {rc : Int32} {w h : Int32} (ho : hp[b6]? = some (2, [.int w, .int h, .ref e2, .ref e3, .ref e4, .int 0, .int rc, .long 0])) : px_Go d 42 (0, [(0, .ref b6), (1, .long 0)], [], hp) (.inl none, hp) := by
  refine px_a 1 (f' := (1, [(0, .ref b6), (1, .long 0)], [.ref b6], hp)) rfl ?_
  refine px_gf b6 26 2 7 (.long 0) rfl rfl ho rfl ?_
  show px_Go _ _ (4, [(0, .ref b6), (1, .long 0)], [.long 0], hp) _
  refine px_a 3 (f' := (9, [(0, .ref b6), (1, .long 0)], [], hp)) rfl ?_
  exact px_e rfl rfl
set_option maxRecDepth 20000 in
theorem c_fold_0 {d : Nat} {hp : px_H} {b6 : Nat} {e2 e3 e4 : Nat} {rc : Int32} {w h : Int32} {q : Int32} (ho : hp[b6]? = some (2, [.int w, .int h, .ref e2, .ref e3, .ref e4, .int 0, .int rc, .long 0])) (g6 : 8 ≤ b6) : px_Go d 34 (0, [(0, .ref b6), (1, .int q)], [], hp) (.inl none, hp.set b6 (2, [.int w, .int h, .ref e2, .ref e3, .ref e4, .int 0, .int 0, .long 0])) := by
  refine px_a 2 (f' := (2, [(0, .ref b6), (1, .int q)], [.int 0, .ref b6], hp)) rfl ?_
  refine px_pf b6 43 2 6 rfl rfl ho (by omega) (by simp) rfl rfl (by decide) ?_
  have hf1_b6 : (hp.set b6 (2, [.int w, .int h, .ref e2, .ref e3, .ref e4, .int 0, .int 0, .long 0]))[b6]? = some (2, [.int w, .int h, .ref e2, .ref e3, .ref e4, .int 0, .int 0, .long 0]) := px_self ho
  show px_Go _ _ (5, [(0, .ref b6), (1, .int q)], [], (hp.set b6 (2, [.int w, .int h, .ref e2, .ref e3, .ref e4, .int 0, .int 0, .long 0]))) _
  refine px_a 4 (f' := (9, [(2, .int 0), (0, .ref b6), (1, .int q)], [.ref b6, .int 0], (hp.set b6 (2, [.int w, .int h, .ref e2, .ref e3, .ref e4, .int 0, .int 0, .long 0])))) rfl ?_
  refine px_gf b6 30 2 5 (.int 0) rfl rfl hf1_b6 rfl ?_
  show px_Go _ _ (12, [(2, .int 0), (0, .ref b6), (1, .int q)], [.int 0, .int 0], (hp.set b6 (2, [.int w, .int h, .ref e2, .ref e3, .ref e4, .int 0, .int 0, .long 0]))) _
  refine px_a 1 (f' := (48, [(2, .int 0), (0, .ref b6), (1, .int q)], [], (hp.set b6 (2, [.int w, .int h, .ref e2, .ref e3, .ref e4, .int 0, .int 0, .long 0])))) rfl ?_
  exact px_e rfl rfl
set_option maxRecDepth 20000 in
theorem c_border_1 {d : Nat} {hp : px_H} {b2 b3 b4 b5 b6 : Nat} {fc fd : Int32}  {e2 e3 e4 : Nat} {rc : Int32} {w h : Int32} {q : Int32} (hc : hp[(8 : Nat)]? = some (3, [.int w, .int h, .ref b2, .ref b3, .ref b4, .ref b5, .ref b6, .int fc, .long 0, .int fd])) (ho : hp[b6]? = some (2, [.int w, .int h, .ref e2, .ref e3, .ref e4, .int 0, .int rc, .long 0])) (g6 : 8 ≤ b6) (n6 : 8 ≠ b6) (h1 : q < 0) : px_Go (d + 1) 45 (0, [(0, .ref 8), (1, .int q)], [], hp) (.inl (some (.int (-1))), hp) := by
  refine px_a 1 (f' := (1, [(0, .ref 8), (1, .int q)], [.ref 8], hp)) rfl ?_
  refine px_gf 8 53 3 6 (.ref b6) rfl rfl hc rfl ?_
  show px_Go _ _ (4, [(0, .ref 8), (1, .int q)], [.ref b6], hp) _
  refine px_a 1 (f' := (5, [(0, .ref 8), (1, .int q)], [.ref 8, .ref b6], hp)) rfl ?_
  refine px_gf 8 64 3 8 (.long 0) rfl rfl hc rfl ?_
  show px_Go _ _ (8, [(0, .ref 8), (1, .int q)], [.long 0, .ref b6], hp) _
  refine px_cv b6 (as := [.long 0]) (rest := []) rfl rfl ho rfl rfl rfl rfl (Nat.le_of_ble_eq_true rfl) (c_trace_0 ho) ?_
  show px_Go _ _ (11, [(0, .ref 8), (1, .int q)], [], hp) _
  refine px_a 1 (f' := (12, [(0, .ref 8), (1, .int q)], [.int q], hp)) rfl ?_
  refine px_b1 true 26 rfl rfl (decide_eq_true h1) ?_
  show px_Go _ _ (26, [(0, .ref 8), (1, .int q)], [], hp) _
  refine px_a 1 (f' := (27, [(0, .ref 8), (1, .int q)], [.int (-1)], hp)) rfl ?_
  exact px_ri rfl rfl rfl
set_option maxRecDepth 20000 in
theorem c_border_2 {d : Nat} {hp : px_H} {b2 b3 b4 b5 b6 : Nat} {fc fd : Int32}  {e2 e3 e4 : Nat} {rc : Int32} {w h : Int32} {q : Int32} (hc : hp[(8 : Nat)]? = some (3, [.int w, .int h, .ref b2, .ref b3, .ref b4, .ref b5, .ref b6, .int fc, .long 0, .int fd])) (ho : hp[b6]? = some (2, [.int w, .int h, .ref e2, .ref e3, .ref e4, .int 0, .int rc, .long 0])) (g6 : 8 ≤ b6) (n6 : 8 ≠ b6) (h1 : ¬ q < 0) : px_Go (d + 1) 45 (0, [(0, .ref 8), (1, .int q)], [], hp) (.inl (some (.int (-1))), hp) := by
  refine px_a 1 (f' := (1, [(0, .ref 8), (1, .int q)], [.ref 8], hp)) rfl ?_
  refine px_gf 8 53 3 6 (.ref b6) rfl rfl hc rfl ?_
  show px_Go _ _ (4, [(0, .ref 8), (1, .int q)], [.ref b6], hp) _
  refine px_a 1 (f' := (5, [(0, .ref 8), (1, .int q)], [.ref 8, .ref b6], hp)) rfl ?_
  refine px_gf 8 64 3 8 (.long 0) rfl rfl hc rfl ?_
  show px_Go _ _ (8, [(0, .ref 8), (1, .int q)], [.long 0, .ref b6], hp) _
  refine px_cv b6 (as := [.long 0]) (rest := []) rfl rfl ho rfl rfl rfl rfl (Nat.le_of_ble_eq_true rfl) (c_trace_0 ho) ?_
  show px_Go _ _ (11, [(0, .ref 8), (1, .int q)], [], hp) _
  refine px_a 1 (f' := (12, [(0, .ref 8), (1, .int q)], [.int q], hp)) rfl ?_
  refine px_b1 false 26 rfl rfl (decide_eq_false h1) ?_
  show px_Go _ _ (15, [(0, .ref 8), (1, .int q)], [], hp) _
  refine px_a 2 (f' := (17, [(0, .ref 8), (1, .int q)], [.ref 8, .int q], hp)) rfl ?_
  refine px_gf 8 53 3 6 (.ref b6) rfl rfl hc rfl ?_
  show px_Go _ _ (20, [(0, .ref 8), (1, .int q)], [.ref b6, .int q], hp) _
  refine px_gf b6 141 2 5 (.int 0) rfl rfl ho rfl ?_
  show px_Go _ _ (23, [(0, .ref 8), (1, .int q)], [.int 0, .int q], hp) _
  refine px_b2 false 28 rfl rfl (decide_eq_false h1) ?_
  show px_Go _ _ (26, [(0, .ref 8), (1, .int q)], [], hp) _
  refine px_a 1 (f' := (27, [(0, .ref 8), (1, .int q)], [.int (-1)], hp)) rfl ?_
  exact px_ri rfl rfl rfl
set_option maxRecDepth 20000 in
theorem c_runs_1 {d : Nat} {hp : px_H}     {q : Int32} (h1 : q < 2) : px_Go d 62 (0, [(0, .ref 8), (1, .int q)], [], hp) (.inl (some (.int (-1))), hp) := by
  refine px_a 2 (f' := (2, [(0, .ref 8), (1, .int q)], [.int 2, .int q], hp)) rfl ?_
  refine px_b2 true 11 rfl rfl (decide_eq_true h1) ?_
  show px_Go _ _ (11, [(0, .ref 8), (1, .int q)], [], hp) _
  refine px_a 1 (f' := (12, [(0, .ref 8), (1, .int q)], [.int (-1)], hp)) rfl ?_
  exact px_ri rfl rfl rfl
set_option maxRecDepth 20000 in
theorem c_runs_2 {d : Nat} {hp : px_H}     {q : Int32} (h1 : ¬ q < 2) (h2 : ¬ q ≤ 9) : px_Go d 62 (0, [(0, .ref 8), (1, .int q)], [], hp) (.inl (some (.int (-1))), hp) := by
  refine px_a 2 (f' := (2, [(0, .ref 8), (1, .int q)], [.int 2, .int q], hp)) rfl ?_
  refine px_b2 false 11 rfl rfl (decide_eq_false h1) ?_
  show px_Go _ _ (5, [(0, .ref 8), (1, .int q)], [], hp) _
  refine px_a 2 (f' := (8, [(0, .ref 8), (1, .int q)], [.int 9, .int q], hp)) rfl ?_
  refine px_b2 false 13 rfl rfl (decide_eq_false h2) ?_
  show px_Go _ _ (11, [(0, .ref 8), (1, .int q)], [], hp) _
  refine px_a 1 (f' := (12, [(0, .ref 8), (1, .int q)], [.int (-1)], hp)) rfl ?_
  exact px_ri rfl rfl rfl
set_option maxRecDepth 20000 in
theorem c_runs_3 {d : Nat} {hp : px_H} {b2 b3 b4 b5 b6 : Nat} {fc fd : Int32}  {e2 e3 e4 : Nat} {rc : Int32} {w h : Int32} {q : Int32} (hc : hp[(8 : Nat)]? = some (3, [.int w, .int h, .ref b2, .ref b3, .ref b4, .ref b5, .ref b6, .int fc, .long 0, .int fd])) (ho : hp[b6]? = some (2, [.int w, .int h, .ref e2, .ref e3, .ref e4, .int 0, .int rc, .long 0])) (g6 : 8 ≤ b6) (n6 : 8 ≠ b6) (h1 : ¬ q < 2) (h2 : q ≤ 9) : px_Go (d + 1) 62 (0, [(0, .ref 8), (1, .int q)], [], hp) (.inl (some (.int 0)), hp.set b6 (2, [.int w, .int h, .ref e2, .ref e3, .ref e4, .int 0, .int 0, .long 0])) := by
  refine px_a 2 (f' := (2, [(0, .ref 8), (1, .int q)], [.int 2, .int q], hp)) rfl ?_
  refine px_b2 false 11 rfl rfl (decide_eq_false h1) ?_
  show px_Go _ _ (5, [(0, .ref 8), (1, .int q)], [], hp) _
  refine px_a 2 (f' := (8, [(0, .ref 8), (1, .int q)], [.int 9, .int q], hp)) rfl ?_
  refine px_b2 true 13 rfl rfl (decide_eq_true h2) ?_
  show px_Go _ _ (13, [(0, .ref 8), (1, .int q)], [], hp) _
  refine px_a 1 (f' := (14, [(0, .ref 8), (1, .int q)], [.ref 8], hp)) rfl ?_
  refine px_gf 8 53 3 6 (.ref b6) rfl rfl hc rfl ?_
  show px_Go _ _ (17, [(0, .ref 8), (1, .int q)], [.ref b6], hp) _
  refine px_a 1 (f' := (18, [(0, .ref 8), (1, .int q)], [.ref 8, .ref b6], hp)) rfl ?_
  refine px_gf 8 64 3 8 (.long 0) rfl rfl hc rfl ?_
  show px_Go _ _ (21, [(0, .ref 8), (1, .int q)], [.long 0, .ref b6], hp) _
  refine px_cv b6 (as := [.long 0]) (rest := []) rfl rfl ho rfl rfl rfl rfl (Nat.le_of_ble_eq_true rfl) (c_trace_0 ho) ?_
  show px_Go _ _ (24, [(0, .ref 8), (1, .int q)], [], hp) _
  refine px_a 1 (f' := (25, [(0, .ref 8), (1, .int q)], [.ref 8], hp)) rfl ?_
  refine px_gf 8 53 3 6 (.ref b6) rfl rfl hc rfl ?_
  show px_Go _ _ (28, [(0, .ref 8), (1, .int q)], [.ref b6], hp) _
  refine px_a 1 (f' := (29, [(0, .ref 8), (1, .int q)], [.int q, .ref b6], hp)) rfl ?_
  refine px_cv b6 (as := [.int q]) (rest := []) rfl rfl ho rfl rfl rfl rfl (Nat.le_of_ble_eq_true rfl) (c_fold_0 ho g6) ?_
  show px_Go _ _ (32, [(0, .ref 8), (1, .int q)], [], (hp.set b6 (2, [.int w, .int h, .ref e2, .ref e3, .ref e4, .int 0, .int 0, .long 0]))) _
  refine px_a 1 (f' := (33, [(0, .ref 8), (1, .int q)], [.ref 8], (hp.set b6 (2, [.int w, .int h, .ref e2, .ref e3, .ref e4, .int 0, .int 0, .long 0])))) rfl ?_
  refine px_gf 8 53 3 6 (.ref b6) rfl rfl (px_ne hc (Ne.symm n6)) rfl ?_
  show px_Go _ _ (36, [(0, .ref 8), (1, .int q)], [.ref b6], (hp.set b6 (2, [.int w, .int h, .ref e2, .ref e3, .ref e4, .int 0, .int 0, .long 0]))) _
  refine px_gf b6 150 2 6 (.int 0) rfl rfl (px_self ho) rfl ?_
  show px_Go _ _ (39, [(0, .ref 8), (1, .int q)], [.int 0], (hp.set b6 (2, [.int w, .int h, .ref e2, .ref e3, .ref e4, .int 0, .int 0, .long 0]))) _
  exact px_ri rfl rfl rfl
set_option maxRecDepth 20000 in
theorem c_run_0 {d : Nat} {hp : px_H}     {q k : Int32} (h3 : k < 0) : px_Go d 61 (0, [(0, .ref 8), (1, .int q), (2, .int k)], [], hp) (.inl (some (.int (-1))), hp) := by
  refine px_a 1 (f' := (1, [(0, .ref 8), (1, .int q), (2, .int k)], [.int k], hp)) rfl ?_
  refine px_b1 true 13 rfl rfl (decide_eq_true h3) ?_
  show px_Go _ _ (13, [(0, .ref 8), (1, .int q), (2, .int k)], [], hp) _
  refine px_a 1 (f' := (14, [(0, .ref 8), (1, .int q), (2, .int k)], [.int (-1)], hp)) rfl ?_
  exact px_ri rfl rfl rfl
set_option maxRecDepth 20000 in
theorem c_run_1 {d : Nat} {hp : px_H} {b2 b3 b4 b5 b6 : Nat} {fc fd : Int32} {sh : Int64} {w h : Int32} {q k : Int32} (hc : hp[(8 : Nat)]? = some (3, [.int w, .int h, .ref b2, .ref b3, .ref b4, .ref b5, .ref b6, .int fc, .long sh, .int fd])) (h3 : ¬ k < 0) (h1 : q < 2) : px_Go (d + 1) 61 (0, [(0, .ref 8), (1, .int q), (2, .int k)], [], hp) (.inl (some (.int (-1))), hp) := by
  refine px_a 1 (f' := (1, [(0, .ref 8), (1, .int q), (2, .int k)], [.int k], hp)) rfl ?_
  refine px_b1 false 13 rfl rfl (decide_eq_false h3) ?_
  show px_Go _ _ (4, [(0, .ref 8), (1, .int q), (2, .int k)], [], hp) _
  refine px_a 3 (f' := (7, [(0, .ref 8), (1, .int q), (2, .int k)], [.int q, .ref 8, .int k], hp)) rfl ?_
  refine px_cv 8 (as := [.int q]) (rest := [.int k]) rfl rfl hc rfl rfl rfl rfl (Nat.le_of_ble_eq_true rfl) (c_runs_1 h1) ?_
  show px_Go _ _ (10, [(0, .ref 8), (1, .int q), (2, .int k)], [.int (-1), .int k], hp) _
  refine px_b2 false 15 rfl rfl (decide_eq_false (fun z => h3 (Int32.lt_trans z (by decide)))) ?_
  show px_Go _ _ (13, [(0, .ref 8), (1, .int q), (2, .int k)], [], hp) _
  refine px_a 1 (f' := (14, [(0, .ref 8), (1, .int q), (2, .int k)], [.int (-1)], hp)) rfl ?_
  exact px_ri rfl rfl rfl
set_option maxRecDepth 20000 in
theorem c_run_2 {d : Nat} {hp : px_H} {b2 b3 b4 b5 b6 : Nat} {fc fd : Int32} {sh : Int64} {w h : Int32} {q k : Int32} (hc : hp[(8 : Nat)]? = some (3, [.int w, .int h, .ref b2, .ref b3, .ref b4, .ref b5, .ref b6, .int fc, .long sh, .int fd])) (h3 : ¬ k < 0) (h1 : ¬ q < 2) (h2 : ¬ q ≤ 9) : px_Go (d + 1) 61 (0, [(0, .ref 8), (1, .int q), (2, .int k)], [], hp) (.inl (some (.int (-1))), hp) := by
  refine px_a 1 (f' := (1, [(0, .ref 8), (1, .int q), (2, .int k)], [.int k], hp)) rfl ?_
  refine px_b1 false 13 rfl rfl (decide_eq_false h3) ?_
  show px_Go _ _ (4, [(0, .ref 8), (1, .int q), (2, .int k)], [], hp) _
  refine px_a 3 (f' := (7, [(0, .ref 8), (1, .int q), (2, .int k)], [.int q, .ref 8, .int k], hp)) rfl ?_
  refine px_cv 8 (as := [.int q]) (rest := [.int k]) rfl rfl hc rfl rfl rfl rfl (Nat.le_of_ble_eq_true rfl) (c_runs_2 h1 h2) ?_
  show px_Go _ _ (10, [(0, .ref 8), (1, .int q), (2, .int k)], [.int (-1), .int k], hp) _
  refine px_b2 false 15 rfl rfl (decide_eq_false (fun z => h3 (Int32.lt_trans z (by decide)))) ?_
  show px_Go _ _ (13, [(0, .ref 8), (1, .int q), (2, .int k)], [], hp) _
  refine px_a 1 (f' := (14, [(0, .ref 8), (1, .int q), (2, .int k)], [.int (-1)], hp)) rfl ?_
  exact px_ri rfl rfl rfl
set_option maxRecDepth 20000 in
theorem c_run_3 {d : Nat} {hp : px_H} {b2 b3 b4 b5 b6 : Nat} {fc fd : Int32}  {e2 e3 e4 : Nat} {rc : Int32} {w h : Int32} {q k : Int32} (hc : hp[(8 : Nat)]? = some (3, [.int w, .int h, .ref b2, .ref b3, .ref b4, .ref b5, .ref b6, .int fc, .long 0, .int fd])) (ho : hp[b6]? = some (2, [.int w, .int h, .ref e2, .ref e3, .ref e4, .int 0, .int rc, .long 0])) (g6 : 8 ≤ b6) (n6 : 8 ≠ b6) (h3 : ¬ k < 0) (h1 : ¬ q < 2) (h2 : q ≤ 9) : px_Go (d + 2) 61 (0, [(0, .ref 8), (1, .int q), (2, .int k)], [], hp) (.inl (some (.int (-1))), hp.set b6 (2, [.int w, .int h, .ref e2, .ref e3, .ref e4, .int 0, .int 0, .long 0])) := by
  refine px_a 1 (f' := (1, [(0, .ref 8), (1, .int q), (2, .int k)], [.int k], hp)) rfl ?_
  refine px_b1 false 13 rfl rfl (decide_eq_false h3) ?_
  show px_Go _ _ (4, [(0, .ref 8), (1, .int q), (2, .int k)], [], hp) _
  refine px_a 3 (f' := (7, [(0, .ref 8), (1, .int q), (2, .int k)], [.int q, .ref 8, .int k], hp)) rfl ?_
  refine px_cv 8 (as := [.int q]) (rest := [.int k]) rfl rfl hc rfl rfl rfl rfl (Nat.le_of_ble_eq_true rfl) (c_runs_3 hc ho g6 n6 h1 h2) ?_
  show px_Go _ _ (10, [(0, .ref 8), (1, .int q), (2, .int k)], [.int 0, .int k], (hp.set b6 (2, [.int w, .int h, .ref e2, .ref e3, .ref e4, .int 0, .int 0, .long 0]))) _
  refine px_b2 false 15 rfl rfl (decide_eq_false h3) ?_
  show px_Go _ _ (13, [(0, .ref 8), (1, .int q), (2, .int k)], [], (hp.set b6 (2, [.int w, .int h, .ref e2, .ref e3, .ref e4, .int 0, .int 0, .long 0]))) _
  refine px_a 1 (f' := (14, [(0, .ref 8), (1, .int q), (2, .int k)], [.int (-1)], (hp.set b6 (2, [.int w, .int h, .ref e2, .ref e3, .ref e4, .int 0, .int 0, .long 0])))) rfl ?_
  exact px_ri rfl rfl rfl
set_option maxRecDepth 20000 in
theorem c_prime_n {d : Nat} {hp : px_H} {q : Int32} (h0 : ¬ q = 2) (h1 : ¬ q = 3) (h2 : ¬ q = 5) (h3 : ¬ q = 7) (h4 : ¬ q = 11) (h5 : ¬ q = 13) : px_Go d 52 (0, [(0, .int q)], [], hp) (.inl (some (.int 0)), hp) := by
  refine px_a 2 (f' := (2, [(0, .int q)], [.int 2, .int q], hp)) rfl ?_
  refine px_b2 false 33 rfl rfl (decide_eq_false h0) ?_
  show px_Go _ _ (5, [(0, .int q)], [], hp) _
  refine px_a 2 (f' := (7, [(0, .int q)], [.int 3, .int q], hp)) rfl ?_
  refine px_b2 false 33 rfl rfl (decide_eq_false h1) ?_
  show px_Go _ _ (10, [(0, .int q)], [], hp) _
  refine px_a 2 (f' := (12, [(0, .int q)], [.int 5, .int q], hp)) rfl ?_
  refine px_b2 false 33 rfl rfl (decide_eq_false h2) ?_
  show px_Go _ _ (15, [(0, .int q)], [], hp) _
  refine px_a 2 (f' := (18, [(0, .int q)], [.int 7, .int q], hp)) rfl ?_
  refine px_b2 false 33 rfl rfl (decide_eq_false h3) ?_
  show px_Go _ _ (21, [(0, .int q)], [], hp) _
  refine px_a 2 (f' := (24, [(0, .int q)], [.int 11, .int q], hp)) rfl ?_
  refine px_b2 false 33 rfl rfl (decide_eq_false h4) ?_
  show px_Go _ _ (27, [(0, .int q)], [], hp) _
  refine px_a 2 (f' := (30, [(0, .int q)], [.int 13, .int q], hp)) rfl ?_
  refine px_b2 true 37 rfl rfl (decide_eq_true h5) ?_
  show px_Go _ _ (37, [(0, .int q)], [], hp) _
  refine px_a 1 (f' := (38, [(0, .int q)], [.int 0], hp)) rfl ?_
  exact px_ri rfl rfl rfl
set_option maxRecDepth 20000 in
theorem c_prime_2 {d : Nat} {hp : px_H} : px_Go d 52 (0, [(0, .int 2)], [], hp) (.inl (some (.int 1)), hp) := by
  refine px_a 5 (f' := (38, [(0, .int 2)], [.int 1], hp)) rfl ?_
  exact px_ri rfl rfl rfl
set_option maxRecDepth 20000 in
theorem c_prime_3 {d : Nat} {hp : px_H} : px_Go d 52 (0, [(0, .int 3)], [], hp) (.inl (some (.int 1)), hp) := by
  refine px_a 8 (f' := (38, [(0, .int 3)], [.int 1], hp)) rfl ?_
  exact px_ri rfl rfl rfl
set_option maxRecDepth 20000 in
theorem c_prime_5 {d : Nat} {hp : px_H} : px_Go d 52 (0, [(0, .int 5)], [], hp) (.inl (some (.int 1)), hp) := by
  refine px_a 11 (f' := (38, [(0, .int 5)], [.int 1], hp)) rfl ?_
  exact px_ri rfl rfl rfl
set_option maxRecDepth 20000 in
theorem c_prime_7 {d : Nat} {hp : px_H} : px_Go d 52 (0, [(0, .int 7)], [], hp) (.inl (some (.int 1)), hp) := by
  refine px_a 14 (f' := (38, [(0, .int 7)], [.int 1], hp)) rfl ?_
  exact px_ri rfl rfl rfl
set_option maxRecDepth 20000 in
theorem c_prime_11 {d : Nat} {hp : px_H} : px_Go d 52 (0, [(0, .int 11)], [], hp) (.inl (some (.int 1)), hp) := by
  refine px_a 17 (f' := (38, [(0, .int 11)], [.int 1], hp)) rfl ?_
  exact px_ri rfl rfl rfl
set_option maxRecDepth 20000 in
theorem c_prime_13 {d : Nat} {hp : px_H} : px_Go d 52 (0, [(0, .int 13)], [], hp) (.inl (some (.int 1)), hp) := by
  refine px_a 20 (f' := (38, [(0, .int 13)], [.int 1], hp)) rfl ?_
  exact px_ri rfl rfl rfl
set_option maxRecDepth 20000 in
theorem c_begin_l {d : Nat} {hp : px_H} {b5 : Nat} {q1 q2 q3 : Nat} {mo : Int32} {q : Int32} {n : Nat} (hn36 : n ≤ 36) (he : hp[b5]? = some (0, [.int (nI n), .ref q1, .ref q2, .ref q3, .int mo])) (ge5 : 8 ≤ b5) (h2 : hp[q2]? = some (12, (List.replicate n (Value.int 0)))) (g2 : 8 ≤ q2) (n52 : b5 ≠ q2) : ∀ (k i : Nat), i + k = n → px_Go d 13 (11, [(2, .int (nI i)), (0, .ref b5), (1, .int q)], [], hp) (.inl none, hp) := by
  intro k
  induction k with
  | zero =>
    intro i hi
    refine px_a 2 (f' := (13, [(2, .int (nI i)), (0, .ref b5), (1, .int q)], [.ref b5, .int (nI i)], hp)) rfl ?_
    refine px_gf b5 7 0 0 (.int (nI n)) rfl rfl he rfl ?_
    show px_Go _ _ (16, [(2, .int (nI i)), (0, .ref b5), (1, .int q)], [.int (nI n), .int (nI i)], hp) _
    refine px_b2 true 32 rfl rfl (decide_eq_true (nI_le (by omega) (by omega))) ?_
    show px_Go _ _ (32, [(2, .int (nI i)), (0, .ref b5), (1, .int q)], [], hp) _
    exact px_e rfl rfl
  | succ k ih =>
    intro i hi
    refine px_a 2 (f' := (13, [(2, .int (nI i)), (0, .ref b5), (1, .int q)], [.ref b5, .int (nI i)], hp)) rfl ?_
    refine px_gf b5 7 0 0 (.int (nI n)) rfl rfl he rfl ?_
    show px_Go _ _ (16, [(2, .int (nI i)), (0, .ref b5), (1, .int q)], [.int (nI n), .int (nI i)], hp) _
    refine px_b2 false 32 rfl rfl (decide_eq_false (nI_ge (by omega) (by omega))) ?_
    show px_Go _ _ (19, [(2, .int (nI i)), (0, .ref b5), (1, .int q)], [], hp) _
    refine px_a 1 (f' := (20, [(2, .int (nI i)), (0, .ref b5), (1, .int q)], [.ref b5], hp)) rfl ?_
    refine px_gf b5 18 0 2 (.ref q2) rfl rfl he rfl ?_
    show px_Go _ _ (23, [(2, .int (nI i)), (0, .ref b5), (1, .int q)], [.ref q2], hp) _
    refine px_a 2 (f' := (25, [(2, .int (nI i)), (0, .ref b5), (1, .int q)], [.int 0, .int (nI i), .ref q2], hp)) rfl ?_
    refine px_zas q2 rfl h2 (by omega) ((nI_pos (by omega))) ((by rw [nI_clamp (by omega)]; simp; omega)) rfl ?_
    have hf1_b5 : (hp.set q2 (12, ((List.replicate n (Value.int 0)).set (nI i).toNatClampNeg (.int 0))))[b5]? = some (0, [.int (nI n), .ref q1, .ref q2, .ref q3, .int mo]) := px_ne he (by omega)
    have hf1_q2 : (hp.set q2 (12, ((List.replicate n (Value.int 0)).set (nI i).toNatClampNeg (.int 0))))[q2]? = some (12, ((List.replicate n (Value.int 0)).set (nI i).toNatClampNeg (.int 0))) := px_self h2
    show px_Go _ _ (26, [(2, .int (nI i)), (0, .ref b5), (1, .int q)], [], (hp.set q2 (12, ((List.replicate n (Value.int 0)).set (nI i).toNatClampNeg (.int 0))))) _
    refine px_a 2 (f' := (11, [(2, .int ((nI i) + 1)), (0, .ref b5), (1, .int q)], [], (hp.set q2 (12, ((List.replicate n (Value.int 0)).set (nI i).toNatClampNeg (.int 0)))))) rfl ?_
    rw [px_vsame (by rw [nI_clamp (by omega), List.getElem?_replicate, if_pos (by omega)]), px_same h2, nI_1]
    exact ih (i + 1) (by omega)
set_option maxRecDepth 20000 in
theorem c_begin_0 {d : Nat} {hp : px_H} {b5 : Nat} {q1 q2 q3 : Nat} {mo : Int32} {q : Int32} {n : Nat} (hn36 : n ≤ 36) (he : hp[b5]? = some (0, [.int (nI n), .ref q1, .ref q2, .ref q3, .int mo])) (ge5 : 8 ≤ b5) (h2 : hp[q2]? = some (12, (List.replicate n (Value.int 0)))) (g2 : 8 ≤ q2) (n52 : b5 ≠ q2) : px_Go d 13 (0, [(0, .ref b5), (1, .int q)], [], hp) (.inl none, hp.set b5 (0, [.int (nI n), .ref q1, .ref q2, .ref q3, .int (if 2 < q then q else 2)])) := by
  refine px_a 4 (f' := (6, [(0, .ref b5), (1, .int q)], [.int (if 2 < q then q else 2), .ref b5], hp)) rfl ?_
  refine px_pf b5 26 0 4 rfl rfl he (by omega) (by simp) rfl rfl (by decide) ?_
  have hf1_b5 : (hp.set b5 (0, [.int (nI n), .ref q1, .ref q2, .ref q3, .int (if 2 < q then q else 2)]))[b5]? = some (0, [.int (nI n), .ref q1, .ref q2, .ref q3, .int (if 2 < q then q else 2)]) := px_self he
  have hf1_q2 : (hp.set b5 (0, [.int (nI n), .ref q1, .ref q2, .ref q3, .int (if 2 < q then q else 2)]))[q2]? = some (12, (List.replicate n (Value.int 0))) := px_ne h2 (by omega)
  show px_Go _ _ (9, [(0, .ref b5), (1, .int q)], [], (hp.set b5 (0, [.int (nI n), .ref q1, .ref q2, .ref q3, .int (if 2 < q then q else 2)]))) _
  refine px_a 2 (f' := (11, [(2, .int 0), (0, .ref b5), (1, .int q)], [], (hp.set b5 (0, [.int (nI n), .ref q1, .ref q2, .ref q3, .int (if 2 < q then q else 2)])))) rfl ?_
  exact c_begin_l hn36 (px_self he) ge5 (px_ne h2 n52) g2 n52 n 0 (by omega)
set_option maxRecDepth 20000 in
theorem c_last_l {d : Nat} {hp : px_H} {b5 : Nat} {q1 q2 q3 : Nat} {mo : Int32} {n : Nat} (hn36 : n ≤ 36) (he : hp[b5]? = some (0, [.int (nI n), .ref q1, .ref q2, .ref q3, .int mo])) (h3 : hp[q3]? = some (10, ((List.replicate (n + 1) (Value.int 0)).set n (.int 1)))) : ∀ (k : Nat) (c : Int32), k ≤ n → c = nI k - 1 → px_Go d 17 (7, [(1, .int c), (0, .ref b5)], [], hp) (.inl (some (.int (-1))), hp) := by
  intro k
  induction k with
  | zero =>
    intro c _ hc
    have e : c = -1 := by rw [hc]; decide
    subst e
    refine px_a 3 (f' := (29, [(1, .int (-1)), (0, .ref b5)], [.int (-1)], hp)) rfl ?_
    exact px_ri rfl rfl rfl
  | succ k ih =>
    intro c hk hc
    rw [nI_pred] at hc
    subst hc
    refine px_a 1 (f' := (8, [(1, .int (nI k)), (0, .ref b5)], [.int (nI k)], hp)) rfl ?_
    refine px_b1 false 28 rfl rfl (decide_eq_false (nI_pos (by omega))) ?_
    show px_Go _ _ (11, [(1, .int (nI k)), (0, .ref b5)], [], hp) _
    refine px_a 1 (f' := (12, [(1, .int (nI k)), (0, .ref b5)], [.ref b5], hp)) rfl ?_
    refine px_gf b5 22 0 3 (.ref q3) rfl rfl he rfl ?_
    show px_Go _ _ (15, [(1, .int (nI k)), (0, .ref b5)], [.ref q3], hp) _
    refine px_a 1 (f' := (16, [(1, .int (nI k)), (0, .ref b5)], [.int (nI k), .ref q3], hp)) rfl ?_
    refine px_al q3 (.int 0) rfl h3 (Or.inl ⟨rfl, Or.inl rfl⟩) ((nI_pos (by omega))) ((by rw [nI_clamp (by omega), List.getElem?_set_ne (by omega), List.getElem?_replicate, if_pos (by omega)])) ?_
    show px_Go _ _ (17, [(1, .int (nI k)), (0, .ref b5)], [.int 0], hp) _
    refine px_a 3 (f' := (7, [(1, .int ((nI k) + (-1))), (0, .ref b5)], [], hp)) rfl ?_
    exact ih _ (by omega) (by rw [Int32.sub_eq_add_neg])
set_option maxRecDepth 20000 in
theorem c_last_0 {d : Nat} {hp : px_H} {b5 : Nat} {q1 q2 q3 : Nat} {mo : Int32} {n : Nat} (hn36 : n ≤ 36) (he : hp[b5]? = some (0, [.int (nI n), .ref q1, .ref q2, .ref q3, .int mo])) (h3 : hp[q3]? = some (10, ((List.replicate (n + 1) (Value.int 0)).set n (.int 1)))) : px_Go d 17 (0, [(0, .ref b5)], [], hp) (.inl (some (.int (-1))), hp) := by
  refine px_a 1 (f' := (1, [(0, .ref b5)], [.ref b5], hp)) rfl ?_
  refine px_gf b5 7 0 0 (.int (nI n)) rfl rfl he rfl ?_
  show px_Go _ _ (4, [(0, .ref b5)], [.int (nI n)], hp) _
  refine px_a 3 (f' := (7, [(1, .int ((nI n) - 1)), (0, .ref b5)], [], hp)) rfl ?_
  exact c_last_l hn36 he h3 n _ (Nat.le_refl _) rfl
set_option maxRecDepth 20000 in
theorem c_add_l1 {d : Nat} {hp : px_H} {b5 : Nat} {q1 q2 q3 : Nat} {mo : Int32} {n : Nat} (hn36 : n ≤ 36) (he : hp[b5]? = some (0, [.int (nI n), .ref q1, .ref q2, .ref q3, .int mo])) (h3 : hp[q3]? = some (10, (List.replicate (n + 1) (Value.int 0)))) (g3 : 8 ≤ q3) (n53 : b5 ≠ q3) {r : px_E} (K : px_Go d 12 (32, [(4, .int (nI n)), (0, .ref b5), (1, .long 0), (3, .int 1)], [], hp) r) : ∀ (k i : Nat), i + k = n → px_Go d 12 (3, [(4, .int (nI i)), (0, .ref b5), (1, .long 0), (3, .int 1)], [], hp) r := by
  intro k
  induction k with
  | zero =>
    intro i hi
    have e : n = i := by omega
    subst e
    refine px_a 2 (f' := (6, [(4, .int (nI n)), (0, .ref b5), (1, .long 0), (3, .int 1)], [.ref b5, .int (nI n)], hp)) rfl ?_
    refine px_gf b5 7 0 0 (.int (nI n)) rfl rfl he rfl ?_
    show px_Go _ _ (9, [(4, .int (nI n)), (0, .ref b5), (1, .long 0), (3, .int 1)], [.int (nI n), .int (nI n)], hp) _
    refine px_b2 true 32 rfl rfl (decide_eq_true (nI_le (by omega) (by omega))) ?_
    show px_Go _ _ (32, [(4, .int (nI n)), (0, .ref b5), (1, .long 0), (3, .int 1)], [], hp) _
    exact K
  | succ k ih =>
    intro i hi
    refine px_a 2 (f' := (6, [(4, .int (nI i)), (0, .ref b5), (1, .long 0), (3, .int 1)], [.ref b5, .int (nI i)], hp)) rfl ?_
    refine px_gf b5 7 0 0 (.int (nI n)) rfl rfl he rfl ?_
    show px_Go _ _ (9, [(4, .int (nI i)), (0, .ref b5), (1, .long 0), (3, .int 1)], [.int (nI n), .int (nI i)], hp) _
    refine px_b2 false 32 rfl rfl (decide_eq_false (nI_ge (by omega) (by omega))) ?_
    show px_Go _ _ (12, [(4, .int (nI i)), (0, .ref b5), (1, .long 0), (3, .int 1)], [], hp) _
    refine px_a 1 (f' := (13, [(4, .int (nI i)), (0, .ref b5), (1, .long 0), (3, .int 1)], [.ref b5], hp)) rfl ?_
    refine px_gf b5 22 0 3 (.ref q3) rfl rfl he rfl ?_
    show px_Go _ _ (16, [(4, .int (nI i)), (0, .ref b5), (1, .long 0), (3, .int 1)], [.ref q3], hp) _
    refine px_a 7 (f' := (25, [(4, .int (nI i)), (0, .ref b5), (1, .long 0), (3, .int 1)], [.int (Int64.toInt32 ((0 >>> (Int32.toInt64 (nI i) &&& 63)) &&& 1)), .int (nI i), .ref q3], hp)) rfl ?_
    refine px_ias q3 rfl h3 (by omega) ((nI_pos (by omega))) ((by rw [nI_clamp (by omega)]; simp; omega)) ?_
    have hf1_b5 : (hp.set q3 (10, ((List.replicate (n + 1) (Value.int 0)).set (nI i).toNatClampNeg (.int (Int64.toInt32 (0 >>> (Int32.toInt64 (nI i) &&& 63) &&& 1))))))[b5]? = some (0, [.int (nI n), .ref q1, .ref q2, .ref q3, .int mo]) := px_ne he (by omega)
    have hf1_q3 : (hp.set q3 (10, ((List.replicate (n + 1) (Value.int 0)).set (nI i).toNatClampNeg (.int (Int64.toInt32 (0 >>> (Int32.toInt64 (nI i) &&& 63) &&& 1))))))[q3]? = some (10, ((List.replicate (n + 1) (Value.int 0)).set (nI i).toNatClampNeg (.int (Int64.toInt32 (0 >>> (Int32.toInt64 (nI i) &&& 63) &&& 1))))) := px_self h3
    show px_Go _ _ (26, [(4, .int (nI i)), (0, .ref b5), (1, .long 0), (3, .int 1)], [], (hp.set q3 (10, ((List.replicate (n + 1) (Value.int 0)).set (nI i).toNatClampNeg (.int (Int64.toInt32 (0 >>> (Int32.toInt64 (nI i) &&& 63) &&& 1))))))) _
    refine px_a 2 (f' := (3, [(4, .int ((nI i) + 1)), (0, .ref b5), (1, .long 0), (3, .int 1)], [], (hp.set q3 (10, ((List.replicate (n + 1) (Value.int 0)).set (nI i).toNatClampNeg (.int (Int64.toInt32 (0 >>> (Int32.toInt64 (nI i) &&& 63) &&& 1)))))))) rfl ?_
    rw [px_z2, px_vsame (by rw [nI_clamp (by omega), List.getElem?_replicate, if_pos (by omega)]), px_same h3, nI_1]
    exact ih (i + 1) (by omega)
set_option maxRecDepth 20000 in
theorem c_add_l2 {d : Nat} {hp : px_H} {b5 : Nat} {q1 q2 q3 : Nat} {mo : Int32} {n : Nat} (hn36 : n ≤ 36) (he : hp[b5]? = some (0, [.int (nI n), .ref q1, .ref q2, .ref q3, .int mo])) (h2 : hp[q2]? = some (12, (List.replicate n (Value.int 0)))) (h3 : hp[q3]? = some (10, ((List.replicate (n + 1) (Value.int 0)).set n (.int 1)))) : ∀ (k i : Nat), i + k = n → px_Go (d + 1) 12 (45, [(4, .int (nI i)), (0, .ref b5), (1, .long 0), (3, .int 1)], [], hp) (.inl (some (.int 0)), hp) := by
  intro k
  induction k with
  | zero =>
    intro i hi
    refine px_a 2 (f' := (48, [(4, .int (nI i)), (0, .ref b5), (1, .long 0), (3, .int 1)], [.ref b5, .int (nI i)], hp)) rfl ?_
    refine px_gf b5 7 0 0 (.int (nI n)) rfl rfl he rfl ?_
    show px_Go _ _ (51, [(4, .int (nI i)), (0, .ref b5), (1, .long 0), (3, .int 1)], [.int (nI n), .int (nI i)], hp) _
    refine px_b2 true 97 rfl rfl (decide_eq_true (nI_le (by omega) (by omega))) ?_
    show px_Go _ _ (97, [(4, .int (nI i)), (0, .ref b5), (1, .long 0), (3, .int 1)], [], hp) _
    refine px_a 1 (f' := (98, [(4, .int (nI i)), (0, .ref b5), (1, .long 0), (3, .int 1)], [.ref b5], hp)) rfl ?_
    refine px_cv b5 (as := []) (rest := []) rfl rfl he rfl rfl rfl rfl (Nat.le_of_ble_eq_true rfl) (c_last_0 hn36 he h3) ?_
    show px_Go _ _ (101, [(4, .int (nI i)), (0, .ref b5), (1, .long 0), (3, .int 1)], [.int (-1)], hp) _
    refine px_a 4 (f' := (109, [(4, .int (-1)), (0, .ref b5), (1, .long 0), (3, .int 1)], [.ref b5], hp)) rfl ?_
    refine px_gf b5 22 0 3 (.ref q3) rfl rfl he rfl ?_
    show px_Go _ _ (112, [(4, .int (-1)), (0, .ref b5), (1, .long 0), (3, .int 1)], [.ref q3], hp) _
    refine px_a 1 (f' := (113, [(4, .int (-1)), (0, .ref b5), (1, .long 0), (3, .int 1)], [.ref b5, .ref q3], hp)) rfl ?_
    refine px_gf b5 7 0 0 (.int (nI n)) rfl rfl he rfl ?_
    show px_Go _ _ (116, [(4, .int (-1)), (0, .ref b5), (1, .long 0), (3, .int 1)], [.int (nI n), .ref q3], hp) _
    refine px_al q3 (.int 1) rfl h3 (Or.inl ⟨rfl, Or.inl rfl⟩) ((nI_pos (by omega))) ((by rw [nI_clamp (by omega), List.getElem?_set_self (by simp)])) ?_
    show px_Go _ _ (117, [(4, .int (-1)), (0, .ref b5), (1, .long 0), (3, .int 1)], [.int 1], hp) _
    refine px_a 2 (f' := (125, [(4, .int (-1)), (0, .ref b5), (1, .long 0), (3, .int 1)], [.int 0], hp)) rfl ?_
    exact px_ri rfl rfl rfl
  | succ k ih =>
    intro i hi
    refine px_a 2 (f' := (48, [(4, .int (nI i)), (0, .ref b5), (1, .long 0), (3, .int 1)], [.ref b5, .int (nI i)], hp)) rfl ?_
    refine px_gf b5 7 0 0 (.int (nI n)) rfl rfl he rfl ?_
    show px_Go _ _ (51, [(4, .int (nI i)), (0, .ref b5), (1, .long 0), (3, .int 1)], [.int (nI n), .int (nI i)], hp) _
    refine px_b2 false 97 rfl rfl (decide_eq_false (nI_ge (by omega) (by omega))) ?_
    show px_Go _ _ (54, [(4, .int (nI i)), (0, .ref b5), (1, .long 0), (3, .int 1)], [], hp) _
    refine px_a 1 (f' := (55, [(4, .int (nI i)), (0, .ref b5), (1, .long 0), (3, .int 1)], [.ref b5], hp)) rfl ?_
    refine px_gf b5 18 0 2 (.ref q2) rfl rfl he rfl ?_
    show px_Go _ _ (58, [(4, .int (nI i)), (0, .ref b5), (1, .long 0), (3, .int 1)], [.ref q2], hp) _
    refine px_a 1 (f' := (60, [(4, .int (nI i)), (0, .ref b5), (1, .long 0), (3, .int 1)], [.int (nI i), .ref q2], hp)) rfl ?_
    refine px_al q2 (.int 0) rfl h2 (Or.inr (Or.inr (Or.inl ⟨rfl, rfl⟩))) ((nI_pos (by omega))) ((by rw [nI_clamp (by omega), List.getElem?_replicate, if_pos (by omega)])) ?_
    show px_Go _ _ (61, [(4, .int (nI i)), (0, .ref b5), (1, .long 0), (3, .int 1)], [.int 0], hp) _
    refine px_a 3 (f' := (45, [(4, .int ((nI i) + 1)), (0, .ref b5), (1, .long 0), (3, .int 1)], [], hp)) rfl ?_
    rw [nI_1]
    exact ih (i + 1) (by omega)
set_option maxRecDepth 20000 in
theorem c_add_0 {d : Nat} {hp : px_H} {b5 : Nat} {q1 q2 q3 : Nat} {mo : Int32} {n : Nat} (hn36 : n ≤ 36) (he : hp[b5]? = some (0, [.int (nI n), .ref q1, .ref q2, .ref q3, .int mo])) (h2 : hp[q2]? = some (12, (List.replicate n (Value.int 0)))) (h3 : hp[q3]? = some (10, (List.replicate (n + 1) (Value.int 0)))) (g3 : 8 ≤ q3) (n53 : b5 ≠ q3) (n23 : q2 ≠ q3) : px_Go (d + 1) 12 (0, [(0, .ref b5), (1, .long 0), (3, .int 1)], [], hp) (.inl (some (.int 0)), hp.set q3 (10, ((List.replicate (n + 1) (Value.int 0)).set n (.int 1)))) := by
  refine px_a 2 (f' := (3, [(4, .int 0), (0, .ref b5), (1, .long 0), (3, .int 1)], [], hp)) rfl ?_
  refine c_add_l1 hn36 he h3 g3 n53 ?_ n 0 (by omega)
  refine px_a 1 (f' := (33, [(4, .int (nI n)), (0, .ref b5), (1, .long 0), (3, .int 1)], [.ref b5], hp)) rfl ?_
  refine px_gf b5 22 0 3 (.ref q3) rfl rfl he rfl ?_
  show px_Go _ _ (36, [(4, .int (nI n)), (0, .ref b5), (1, .long 0), (3, .int 1)], [.ref q3], hp) _
  refine px_a 1 (f' := (37, [(4, .int (nI n)), (0, .ref b5), (1, .long 0), (3, .int 1)], [.ref b5, .ref q3], hp)) rfl ?_
  refine px_gf b5 7 0 0 (.int (nI n)) rfl rfl he rfl ?_
  show px_Go _ _ (40, [(4, .int (nI n)), (0, .ref b5), (1, .long 0), (3, .int 1)], [.int (nI n), .ref q3], hp) _
  refine px_a 1 (f' := (41, [(4, .int (nI n)), (0, .ref b5), (1, .long 0), (3, .int 1)], [.int 1, .int (nI n), .ref q3], hp)) rfl ?_
  refine px_ias q3 rfl h3 (by omega) ((nI_pos (by omega))) ((by rw [nI_clamp (by omega)]; simp)) ?_
  have hf1_b5 : (hp.set q3 (10, ((List.replicate (n + 1) (Value.int 0)).set (nI n).toNatClampNeg (.int 1))))[b5]? = some (0, [.int (nI n), .ref q1, .ref q2, .ref q3, .int mo]) := px_ne he (by omega)
  have hf1_q3 : (hp.set q3 (10, ((List.replicate (n + 1) (Value.int 0)).set (nI n).toNatClampNeg (.int 1))))[q3]? = some (10, ((List.replicate (n + 1) (Value.int 0)).set (nI n).toNatClampNeg (.int 1))) := px_self h3
  show px_Go _ _ (42, [(4, .int (nI n)), (0, .ref b5), (1, .long 0), (3, .int 1)], [], (hp.set q3 (10, ((List.replicate (n + 1) (Value.int 0)).set (nI n).toNatClampNeg (.int 1))))) _
  refine px_a 2 (f' := (45, [(4, .int 0), (0, .ref b5), (1, .long 0), (3, .int 1)], [], (hp.set q3 (10, ((List.replicate (n + 1) (Value.int 0)).set (nI n).toNatClampNeg (.int 1)))))) rfl ?_
  rw [nI_clamp (by omega : n < 2 ^ 31)]
  exact c_add_l2 hn36 (px_ne he (Ne.symm n53)) (px_ne h2 (Ne.symm n23)) (px_self h3) n 0 (by omega)
set_option maxRecDepth 20000 in
theorem c_colour_n {d : Nat} {hp : px_H}     {q : Int32} (h0 : ¬ q = 2) (h1 : ¬ q = 3) (h2 : ¬ q = 5) (h3 : ¬ q = 7) (h4 : ¬ q = 11) (h5 : ¬ q = 13) : px_Go (d + 1) 48 (0, [(0, .ref 8), (1, .int q)], [], hp) (.inl (some (.int (-1))), hp) := by
  refine px_a 1 (f' := (1, [(0, .ref 8), (1, .int q)], [.int q], hp)) rfl ?_
  refine px_cl (as := [.int q]) (rest := []) rfl rfl (c_prime_n h0 h1 h2 h3 h4 h5) ?_
  show px_Go _ _ (4, [(0, .ref 8), (1, .int q)], [.int 0], hp) _
  refine px_a 2 (f' := (8, [(0, .ref 8), (1, .int q)], [.int (-1)], hp)) rfl ?_
  exact px_ri rfl rfl rfl
set_option maxRecDepth 20000 in
theorem c_colour_2 {d : Nat} {hp : px_H} {b2 b3 b4 b5 b6 : Nat} {fd : Int32}  {q1 q2 q3 : Nat} {mo : Int32} {w h : Int32} {n : Nat} (hn36 : n ≤ 36) (hc : hp[(8 : Nat)]? = some (3, [.int w, .int h, .ref b2, .ref b3, .ref b4, .ref b5, .ref b6, .int 0, .long 0, .int fd])) (he : hp[b5]? = some (0, [.int (nI n), .ref q1, .ref q2, .ref q3, .int mo])) (ge5 : 8 ≤ b5) (n85 : 8 ≠ b5) (h2 : hp[q2]? = some (12, (List.replicate n (Value.int 0)))) (g2 : 8 ≤ q2) (n52 : b5 ≠ q2) (h3 : hp[q3]? = some (10, (List.replicate (n + 1) (Value.int 0)))) (g3 : 8 ≤ q3) (n53 : b5 ≠ q3) (n23 : q2 ≠ q3) : px_Go (d + 2) 48 (0, [(0, .ref 8), (1, .int 2)], [], hp) (.inl (some (.int 0)), (hp.set b5 (0, [.int (nI n), .ref q1, .ref q2, .ref q3, .int (if (2 : Int32) < 2 then 2 else 2)])).set q3 (10, ((List.replicate (n + 1) (Value.int 0)).set n (.int 1)))) := by
  refine px_a 1 (f' := (1, [(0, .ref 8), (1, .int 2)], [.int 2], hp)) rfl ?_
  refine px_cl (as := [.int 2]) (rest := []) rfl rfl (c_prime_2) ?_
  show px_Go _ _ (4, [(0, .ref 8), (1, .int 2)], [.int 1], hp) _
  refine px_a 2 (f' := (10, [(0, .ref 8), (1, .int 2)], [.ref 8], hp)) rfl ?_
  refine px_gf 8 46 3 5 (.ref b5) rfl rfl hc rfl ?_
  show px_Go _ _ (13, [(0, .ref 8), (1, .int 2)], [.ref b5], hp) _
  refine px_a 1 (f' := (14, [(0, .ref 8), (1, .int 2)], [.int 2, .ref b5], hp)) rfl ?_
  refine px_cv b5 (as := [.int 2]) (rest := []) rfl rfl he rfl rfl rfl rfl (Nat.le_of_ble_eq_true rfl) (c_begin_0 (q := 2) hn36 he ge5 h2 g2 n52) ?_
  show px_Go _ _ (17, [(0, .ref 8), (1, .int 2)], [], (hp.set b5 (0, [.int (nI n), .ref q1, .ref q2, .ref q3, .int (if (2 : Int32) < 2 then 2 else 2)]))) _
  refine px_a 4 (f' := (21, [(2, .int 0), (0, .ref 8), (1, .int 2)], [.ref 8, .int 0], (hp.set b5 (0, [.int (nI n), .ref q1, .ref q2, .ref q3, .int (if (2 : Int32) < 2 then 2 else 2)])))) rfl ?_
  refine px_gf 8 72 3 7 (.int 0) rfl rfl (px_ne hc n85.symm) rfl ?_
  show px_Go _ _ (24, [(2, .int 0), (0, .ref 8), (1, .int 2)], [.int 0, .int 0], (hp.set b5 (0, [.int (nI n), .ref q1, .ref q2, .ref q3, .int (if (2 : Int32) < 2 then 2 else 2)]))) _
  refine px_a 2 (f' := (44, [(2, .int 0), (0, .ref 8), (1, .int 2)], [.ref 8], (hp.set b5 (0, [.int (nI n), .ref q1, .ref q2, .ref q3, .int (if (2 : Int32) < 2 then 2 else 2)])))) rfl ?_
  refine px_gf 8 46 3 5 (.ref b5) rfl rfl (px_ne hc n85.symm) rfl ?_
  show px_Go _ _ (47, [(2, .int 0), (0, .ref 8), (1, .int 2)], [.ref b5], (hp.set b5 (0, [.int (nI n), .ref q1, .ref q2, .ref q3, .int (if (2 : Int32) < 2 then 2 else 2)]))) _
  refine px_a 1 (f' := (48, [(2, .int 0), (0, .ref 8), (1, .int 2)], [.ref 8, .ref b5], (hp.set b5 (0, [.int (nI n), .ref q1, .ref q2, .ref q3, .int (if (2 : Int32) < 2 then 2 else 2)])))) rfl ?_
  refine px_gf 8 64 3 8 (.long 0) rfl rfl (px_ne hc n85.symm) rfl ?_
  show px_Go _ _ (51, [(2, .int 0), (0, .ref 8), (1, .int 2)], [.long 0, .ref b5], (hp.set b5 (0, [.int (nI n), .ref q1, .ref q2, .ref q3, .int (if (2 : Int32) < 2 then 2 else 2)]))) _
  refine px_a 1 (f' := (52, [(2, .int 0), (0, .ref 8), (1, .int 2)], [.int 1, .long 0, .ref b5], (hp.set b5 (0, [.int (nI n), .ref q1, .ref q2, .ref q3, .int (if (2 : Int32) < 2 then 2 else 2)])))) rfl ?_
  refine px_cv b5 (as := [.long 0, .int 1]) (rest := []) rfl rfl (px_self he) rfl rfl rfl rfl (Nat.le_of_ble_eq_true rfl) (c_add_0 hn36 (px_self he) (px_ne h2 n52) (px_ne h3 n53) g3 n53 n23) ?_
  show px_Go _ _ (55, [(2, .int 0), (0, .ref 8), (1, .int 2)], [.int 0], ((hp.set b5 (0, [.int (nI n), .ref q1, .ref q2, .ref q3, .int (if (2 : Int32) < 2 then 2 else 2)])).set q3 (10, ((List.replicate (n + 1) (Value.int 0)).set n (.int 1))))) _
  refine px_a 2 (f' := (59, [(2, .int 0), (0, .ref 8), (1, .int 2)], [.int 0], ((hp.set b5 (0, [.int (nI n), .ref q1, .ref q2, .ref q3, .int (if (2 : Int32) < 2 then 2 else 2)])).set q3 (10, ((List.replicate (n + 1) (Value.int 0)).set n (.int 1)))))) rfl ?_
  exact px_ri rfl rfl rfl
set_option maxRecDepth 20000 in
theorem c_colour_3 {d : Nat} {hp : px_H} {b2 b3 b4 b5 b6 : Nat} {fd : Int32}  {q1 q2 q3 : Nat} {mo : Int32} {w h : Int32} {n : Nat} (hn36 : n ≤ 36) (hc : hp[(8 : Nat)]? = some (3, [.int w, .int h, .ref b2, .ref b3, .ref b4, .ref b5, .ref b6, .int 0, .long 0, .int fd])) (he : hp[b5]? = some (0, [.int (nI n), .ref q1, .ref q2, .ref q3, .int mo])) (ge5 : 8 ≤ b5) (n85 : 8 ≠ b5) (h2 : hp[q2]? = some (12, (List.replicate n (Value.int 0)))) (g2 : 8 ≤ q2) (n52 : b5 ≠ q2) (h3 : hp[q3]? = some (10, (List.replicate (n + 1) (Value.int 0)))) (g3 : 8 ≤ q3) (n53 : b5 ≠ q3) (n23 : q2 ≠ q3) : px_Go (d + 2) 48 (0, [(0, .ref 8), (1, .int 3)], [], hp) (.inl (some (.int 0)), (hp.set b5 (0, [.int (nI n), .ref q1, .ref q2, .ref q3, .int (if (2 : Int32) < 3 then 3 else 2)])).set q3 (10, ((List.replicate (n + 1) (Value.int 0)).set n (.int 1)))) := by
  refine px_a 1 (f' := (1, [(0, .ref 8), (1, .int 3)], [.int 3], hp)) rfl ?_
  refine px_cl (as := [.int 3]) (rest := []) rfl rfl (c_prime_3) ?_
  show px_Go _ _ (4, [(0, .ref 8), (1, .int 3)], [.int 1], hp) _
  refine px_a 2 (f' := (10, [(0, .ref 8), (1, .int 3)], [.ref 8], hp)) rfl ?_
  refine px_gf 8 46 3 5 (.ref b5) rfl rfl hc rfl ?_
  show px_Go _ _ (13, [(0, .ref 8), (1, .int 3)], [.ref b5], hp) _
  refine px_a 1 (f' := (14, [(0, .ref 8), (1, .int 3)], [.int 3, .ref b5], hp)) rfl ?_
  refine px_cv b5 (as := [.int 3]) (rest := []) rfl rfl he rfl rfl rfl rfl (Nat.le_of_ble_eq_true rfl) (c_begin_0 (q := 3) hn36 he ge5 h2 g2 n52) ?_
  show px_Go _ _ (17, [(0, .ref 8), (1, .int 3)], [], (hp.set b5 (0, [.int (nI n), .ref q1, .ref q2, .ref q3, .int (if (2 : Int32) < 3 then 3 else 2)]))) _
  refine px_a 4 (f' := (21, [(2, .int 0), (0, .ref 8), (1, .int 3)], [.ref 8, .int 0], (hp.set b5 (0, [.int (nI n), .ref q1, .ref q2, .ref q3, .int (if (2 : Int32) < 3 then 3 else 2)])))) rfl ?_
  refine px_gf 8 72 3 7 (.int 0) rfl rfl (px_ne hc n85.symm) rfl ?_
  show px_Go _ _ (24, [(2, .int 0), (0, .ref 8), (1, .int 3)], [.int 0, .int 0], (hp.set b5 (0, [.int (nI n), .ref q1, .ref q2, .ref q3, .int (if (2 : Int32) < 3 then 3 else 2)]))) _
  refine px_a 2 (f' := (44, [(2, .int 0), (0, .ref 8), (1, .int 3)], [.ref 8], (hp.set b5 (0, [.int (nI n), .ref q1, .ref q2, .ref q3, .int (if (2 : Int32) < 3 then 3 else 2)])))) rfl ?_
  refine px_gf 8 46 3 5 (.ref b5) rfl rfl (px_ne hc n85.symm) rfl ?_
  show px_Go _ _ (47, [(2, .int 0), (0, .ref 8), (1, .int 3)], [.ref b5], (hp.set b5 (0, [.int (nI n), .ref q1, .ref q2, .ref q3, .int (if (2 : Int32) < 3 then 3 else 2)]))) _
  refine px_a 1 (f' := (48, [(2, .int 0), (0, .ref 8), (1, .int 3)], [.ref 8, .ref b5], (hp.set b5 (0, [.int (nI n), .ref q1, .ref q2, .ref q3, .int (if (2 : Int32) < 3 then 3 else 2)])))) rfl ?_
  refine px_gf 8 64 3 8 (.long 0) rfl rfl (px_ne hc n85.symm) rfl ?_
  show px_Go _ _ (51, [(2, .int 0), (0, .ref 8), (1, .int 3)], [.long 0, .ref b5], (hp.set b5 (0, [.int (nI n), .ref q1, .ref q2, .ref q3, .int (if (2 : Int32) < 3 then 3 else 2)]))) _
  refine px_a 1 (f' := (52, [(2, .int 0), (0, .ref 8), (1, .int 3)], [.int 1, .long 0, .ref b5], (hp.set b5 (0, [.int (nI n), .ref q1, .ref q2, .ref q3, .int (if (2 : Int32) < 3 then 3 else 2)])))) rfl ?_
  refine px_cv b5 (as := [.long 0, .int 1]) (rest := []) rfl rfl (px_self he) rfl rfl rfl rfl (Nat.le_of_ble_eq_true rfl) (c_add_0 hn36 (px_self he) (px_ne h2 n52) (px_ne h3 n53) g3 n53 n23) ?_
  show px_Go _ _ (55, [(2, .int 0), (0, .ref 8), (1, .int 3)], [.int 0], ((hp.set b5 (0, [.int (nI n), .ref q1, .ref q2, .ref q3, .int (if (2 : Int32) < 3 then 3 else 2)])).set q3 (10, ((List.replicate (n + 1) (Value.int 0)).set n (.int 1))))) _
  refine px_a 2 (f' := (59, [(2, .int 0), (0, .ref 8), (1, .int 3)], [.int 0], ((hp.set b5 (0, [.int (nI n), .ref q1, .ref q2, .ref q3, .int (if (2 : Int32) < 3 then 3 else 2)])).set q3 (10, ((List.replicate (n + 1) (Value.int 0)).set n (.int 1)))))) rfl ?_
  exact px_ri rfl rfl rfl
set_option maxRecDepth 20000 in
theorem c_colour_5 {d : Nat} {hp : px_H} {b2 b3 b4 b5 b6 : Nat} {fd : Int32}  {q1 q2 q3 : Nat} {mo : Int32} {w h : Int32} {n : Nat} (hn36 : n ≤ 36) (hc : hp[(8 : Nat)]? = some (3, [.int w, .int h, .ref b2, .ref b3, .ref b4, .ref b5, .ref b6, .int 0, .long 0, .int fd])) (he : hp[b5]? = some (0, [.int (nI n), .ref q1, .ref q2, .ref q3, .int mo])) (ge5 : 8 ≤ b5) (n85 : 8 ≠ b5) (h2 : hp[q2]? = some (12, (List.replicate n (Value.int 0)))) (g2 : 8 ≤ q2) (n52 : b5 ≠ q2) (h3 : hp[q3]? = some (10, (List.replicate (n + 1) (Value.int 0)))) (g3 : 8 ≤ q3) (n53 : b5 ≠ q3) (n23 : q2 ≠ q3) : px_Go (d + 2) 48 (0, [(0, .ref 8), (1, .int 5)], [], hp) (.inl (some (.int 0)), (hp.set b5 (0, [.int (nI n), .ref q1, .ref q2, .ref q3, .int (if (2 : Int32) < 5 then 5 else 2)])).set q3 (10, ((List.replicate (n + 1) (Value.int 0)).set n (.int 1)))) := by
  refine px_a 1 (f' := (1, [(0, .ref 8), (1, .int 5)], [.int 5], hp)) rfl ?_
  refine px_cl (as := [.int 5]) (rest := []) rfl rfl (c_prime_5) ?_
  show px_Go _ _ (4, [(0, .ref 8), (1, .int 5)], [.int 1], hp) _
  refine px_a 2 (f' := (10, [(0, .ref 8), (1, .int 5)], [.ref 8], hp)) rfl ?_
  refine px_gf 8 46 3 5 (.ref b5) rfl rfl hc rfl ?_
  show px_Go _ _ (13, [(0, .ref 8), (1, .int 5)], [.ref b5], hp) _
  refine px_a 1 (f' := (14, [(0, .ref 8), (1, .int 5)], [.int 5, .ref b5], hp)) rfl ?_
  refine px_cv b5 (as := [.int 5]) (rest := []) rfl rfl he rfl rfl rfl rfl (Nat.le_of_ble_eq_true rfl) (c_begin_0 (q := 5) hn36 he ge5 h2 g2 n52) ?_
  show px_Go _ _ (17, [(0, .ref 8), (1, .int 5)], [], (hp.set b5 (0, [.int (nI n), .ref q1, .ref q2, .ref q3, .int (if (2 : Int32) < 5 then 5 else 2)]))) _
  refine px_a 4 (f' := (21, [(2, .int 0), (0, .ref 8), (1, .int 5)], [.ref 8, .int 0], (hp.set b5 (0, [.int (nI n), .ref q1, .ref q2, .ref q3, .int (if (2 : Int32) < 5 then 5 else 2)])))) rfl ?_
  refine px_gf 8 72 3 7 (.int 0) rfl rfl (px_ne hc n85.symm) rfl ?_
  show px_Go _ _ (24, [(2, .int 0), (0, .ref 8), (1, .int 5)], [.int 0, .int 0], (hp.set b5 (0, [.int (nI n), .ref q1, .ref q2, .ref q3, .int (if (2 : Int32) < 5 then 5 else 2)]))) _
  refine px_a 2 (f' := (44, [(2, .int 0), (0, .ref 8), (1, .int 5)], [.ref 8], (hp.set b5 (0, [.int (nI n), .ref q1, .ref q2, .ref q3, .int (if (2 : Int32) < 5 then 5 else 2)])))) rfl ?_
  refine px_gf 8 46 3 5 (.ref b5) rfl rfl (px_ne hc n85.symm) rfl ?_
  show px_Go _ _ (47, [(2, .int 0), (0, .ref 8), (1, .int 5)], [.ref b5], (hp.set b5 (0, [.int (nI n), .ref q1, .ref q2, .ref q3, .int (if (2 : Int32) < 5 then 5 else 2)]))) _
  refine px_a 1 (f' := (48, [(2, .int 0), (0, .ref 8), (1, .int 5)], [.ref 8, .ref b5], (hp.set b5 (0, [.int (nI n), .ref q1, .ref q2, .ref q3, .int (if (2 : Int32) < 5 then 5 else 2)])))) rfl ?_
  refine px_gf 8 64 3 8 (.long 0) rfl rfl (px_ne hc n85.symm) rfl ?_
  show px_Go _ _ (51, [(2, .int 0), (0, .ref 8), (1, .int 5)], [.long 0, .ref b5], (hp.set b5 (0, [.int (nI n), .ref q1, .ref q2, .ref q3, .int (if (2 : Int32) < 5 then 5 else 2)]))) _
  refine px_a 1 (f' := (52, [(2, .int 0), (0, .ref 8), (1, .int 5)], [.int 1, .long 0, .ref b5], (hp.set b5 (0, [.int (nI n), .ref q1, .ref q2, .ref q3, .int (if (2 : Int32) < 5 then 5 else 2)])))) rfl ?_
  refine px_cv b5 (as := [.long 0, .int 1]) (rest := []) rfl rfl (px_self he) rfl rfl rfl rfl (Nat.le_of_ble_eq_true rfl) (c_add_0 hn36 (px_self he) (px_ne h2 n52) (px_ne h3 n53) g3 n53 n23) ?_
  show px_Go _ _ (55, [(2, .int 0), (0, .ref 8), (1, .int 5)], [.int 0], ((hp.set b5 (0, [.int (nI n), .ref q1, .ref q2, .ref q3, .int (if (2 : Int32) < 5 then 5 else 2)])).set q3 (10, ((List.replicate (n + 1) (Value.int 0)).set n (.int 1))))) _
  refine px_a 2 (f' := (59, [(2, .int 0), (0, .ref 8), (1, .int 5)], [.int 0], ((hp.set b5 (0, [.int (nI n), .ref q1, .ref q2, .ref q3, .int (if (2 : Int32) < 5 then 5 else 2)])).set q3 (10, ((List.replicate (n + 1) (Value.int 0)).set n (.int 1)))))) rfl ?_
  exact px_ri rfl rfl rfl
set_option maxRecDepth 20000 in
theorem c_colour_7 {d : Nat} {hp : px_H} {b2 b3 b4 b5 b6 : Nat} {fd : Int32}  {q1 q2 q3 : Nat} {mo : Int32} {w h : Int32} {n : Nat} (hn36 : n ≤ 36) (hc : hp[(8 : Nat)]? = some (3, [.int w, .int h, .ref b2, .ref b3, .ref b4, .ref b5, .ref b6, .int 0, .long 0, .int fd])) (he : hp[b5]? = some (0, [.int (nI n), .ref q1, .ref q2, .ref q3, .int mo])) (ge5 : 8 ≤ b5) (n85 : 8 ≠ b5) (h2 : hp[q2]? = some (12, (List.replicate n (Value.int 0)))) (g2 : 8 ≤ q2) (n52 : b5 ≠ q2) (h3 : hp[q3]? = some (10, (List.replicate (n + 1) (Value.int 0)))) (g3 : 8 ≤ q3) (n53 : b5 ≠ q3) (n23 : q2 ≠ q3) : px_Go (d + 2) 48 (0, [(0, .ref 8), (1, .int 7)], [], hp) (.inl (some (.int 0)), (hp.set b5 (0, [.int (nI n), .ref q1, .ref q2, .ref q3, .int (if (2 : Int32) < 7 then 7 else 2)])).set q3 (10, ((List.replicate (n + 1) (Value.int 0)).set n (.int 1)))) := by
  refine px_a 1 (f' := (1, [(0, .ref 8), (1, .int 7)], [.int 7], hp)) rfl ?_
  refine px_cl (as := [.int 7]) (rest := []) rfl rfl (c_prime_7) ?_
  show px_Go _ _ (4, [(0, .ref 8), (1, .int 7)], [.int 1], hp) _
  refine px_a 2 (f' := (10, [(0, .ref 8), (1, .int 7)], [.ref 8], hp)) rfl ?_
  refine px_gf 8 46 3 5 (.ref b5) rfl rfl hc rfl ?_
  show px_Go _ _ (13, [(0, .ref 8), (1, .int 7)], [.ref b5], hp) _
  refine px_a 1 (f' := (14, [(0, .ref 8), (1, .int 7)], [.int 7, .ref b5], hp)) rfl ?_
  refine px_cv b5 (as := [.int 7]) (rest := []) rfl rfl he rfl rfl rfl rfl (Nat.le_of_ble_eq_true rfl) (c_begin_0 (q := 7) hn36 he ge5 h2 g2 n52) ?_
  show px_Go _ _ (17, [(0, .ref 8), (1, .int 7)], [], (hp.set b5 (0, [.int (nI n), .ref q1, .ref q2, .ref q3, .int (if (2 : Int32) < 7 then 7 else 2)]))) _
  refine px_a 4 (f' := (21, [(2, .int 0), (0, .ref 8), (1, .int 7)], [.ref 8, .int 0], (hp.set b5 (0, [.int (nI n), .ref q1, .ref q2, .ref q3, .int (if (2 : Int32) < 7 then 7 else 2)])))) rfl ?_
  refine px_gf 8 72 3 7 (.int 0) rfl rfl (px_ne hc n85.symm) rfl ?_
  show px_Go _ _ (24, [(2, .int 0), (0, .ref 8), (1, .int 7)], [.int 0, .int 0], (hp.set b5 (0, [.int (nI n), .ref q1, .ref q2, .ref q3, .int (if (2 : Int32) < 7 then 7 else 2)]))) _
  refine px_a 2 (f' := (44, [(2, .int 0), (0, .ref 8), (1, .int 7)], [.ref 8], (hp.set b5 (0, [.int (nI n), .ref q1, .ref q2, .ref q3, .int (if (2 : Int32) < 7 then 7 else 2)])))) rfl ?_
  refine px_gf 8 46 3 5 (.ref b5) rfl rfl (px_ne hc n85.symm) rfl ?_
  show px_Go _ _ (47, [(2, .int 0), (0, .ref 8), (1, .int 7)], [.ref b5], (hp.set b5 (0, [.int (nI n), .ref q1, .ref q2, .ref q3, .int (if (2 : Int32) < 7 then 7 else 2)]))) _
  refine px_a 1 (f' := (48, [(2, .int 0), (0, .ref 8), (1, .int 7)], [.ref 8, .ref b5], (hp.set b5 (0, [.int (nI n), .ref q1, .ref q2, .ref q3, .int (if (2 : Int32) < 7 then 7 else 2)])))) rfl ?_
  refine px_gf 8 64 3 8 (.long 0) rfl rfl (px_ne hc n85.symm) rfl ?_
  show px_Go _ _ (51, [(2, .int 0), (0, .ref 8), (1, .int 7)], [.long 0, .ref b5], (hp.set b5 (0, [.int (nI n), .ref q1, .ref q2, .ref q3, .int (if (2 : Int32) < 7 then 7 else 2)]))) _
  refine px_a 1 (f' := (52, [(2, .int 0), (0, .ref 8), (1, .int 7)], [.int 1, .long 0, .ref b5], (hp.set b5 (0, [.int (nI n), .ref q1, .ref q2, .ref q3, .int (if (2 : Int32) < 7 then 7 else 2)])))) rfl ?_
  refine px_cv b5 (as := [.long 0, .int 1]) (rest := []) rfl rfl (px_self he) rfl rfl rfl rfl (Nat.le_of_ble_eq_true rfl) (c_add_0 hn36 (px_self he) (px_ne h2 n52) (px_ne h3 n53) g3 n53 n23) ?_
  show px_Go _ _ (55, [(2, .int 0), (0, .ref 8), (1, .int 7)], [.int 0], ((hp.set b5 (0, [.int (nI n), .ref q1, .ref q2, .ref q3, .int (if (2 : Int32) < 7 then 7 else 2)])).set q3 (10, ((List.replicate (n + 1) (Value.int 0)).set n (.int 1))))) _
  refine px_a 2 (f' := (59, [(2, .int 0), (0, .ref 8), (1, .int 7)], [.int 0], ((hp.set b5 (0, [.int (nI n), .ref q1, .ref q2, .ref q3, .int (if (2 : Int32) < 7 then 7 else 2)])).set q3 (10, ((List.replicate (n + 1) (Value.int 0)).set n (.int 1)))))) rfl ?_
  exact px_ri rfl rfl rfl
set_option maxRecDepth 20000 in
theorem c_colour_11 {d : Nat} {hp : px_H} {b2 b3 b4 b5 b6 : Nat} {fd : Int32}  {q1 q2 q3 : Nat} {mo : Int32} {w h : Int32} {n : Nat} (hn36 : n ≤ 36) (hc : hp[(8 : Nat)]? = some (3, [.int w, .int h, .ref b2, .ref b3, .ref b4, .ref b5, .ref b6, .int 0, .long 0, .int fd])) (he : hp[b5]? = some (0, [.int (nI n), .ref q1, .ref q2, .ref q3, .int mo])) (ge5 : 8 ≤ b5) (n85 : 8 ≠ b5) (h2 : hp[q2]? = some (12, (List.replicate n (Value.int 0)))) (g2 : 8 ≤ q2) (n52 : b5 ≠ q2) (h3 : hp[q3]? = some (10, (List.replicate (n + 1) (Value.int 0)))) (g3 : 8 ≤ q3) (n53 : b5 ≠ q3) (n23 : q2 ≠ q3) : px_Go (d + 2) 48 (0, [(0, .ref 8), (1, .int 11)], [], hp) (.inl (some (.int 0)), (hp.set b5 (0, [.int (nI n), .ref q1, .ref q2, .ref q3, .int (if (2 : Int32) < 11 then 11 else 2)])).set q3 (10, ((List.replicate (n + 1) (Value.int 0)).set n (.int 1)))) := by
  refine px_a 1 (f' := (1, [(0, .ref 8), (1, .int 11)], [.int 11], hp)) rfl ?_
  refine px_cl (as := [.int 11]) (rest := []) rfl rfl (c_prime_11) ?_
  show px_Go _ _ (4, [(0, .ref 8), (1, .int 11)], [.int 1], hp) _
  refine px_a 2 (f' := (10, [(0, .ref 8), (1, .int 11)], [.ref 8], hp)) rfl ?_
  refine px_gf 8 46 3 5 (.ref b5) rfl rfl hc rfl ?_
  show px_Go _ _ (13, [(0, .ref 8), (1, .int 11)], [.ref b5], hp) _
  refine px_a 1 (f' := (14, [(0, .ref 8), (1, .int 11)], [.int 11, .ref b5], hp)) rfl ?_
  refine px_cv b5 (as := [.int 11]) (rest := []) rfl rfl he rfl rfl rfl rfl (Nat.le_of_ble_eq_true rfl) (c_begin_0 (q := 11) hn36 he ge5 h2 g2 n52) ?_
  show px_Go _ _ (17, [(0, .ref 8), (1, .int 11)], [], (hp.set b5 (0, [.int (nI n), .ref q1, .ref q2, .ref q3, .int (if (2 : Int32) < 11 then 11 else 2)]))) _
  refine px_a 4 (f' := (21, [(2, .int 0), (0, .ref 8), (1, .int 11)], [.ref 8, .int 0], (hp.set b5 (0, [.int (nI n), .ref q1, .ref q2, .ref q3, .int (if (2 : Int32) < 11 then 11 else 2)])))) rfl ?_
  refine px_gf 8 72 3 7 (.int 0) rfl rfl (px_ne hc n85.symm) rfl ?_
  show px_Go _ _ (24, [(2, .int 0), (0, .ref 8), (1, .int 11)], [.int 0, .int 0], (hp.set b5 (0, [.int (nI n), .ref q1, .ref q2, .ref q3, .int (if (2 : Int32) < 11 then 11 else 2)]))) _
  refine px_a 2 (f' := (44, [(2, .int 0), (0, .ref 8), (1, .int 11)], [.ref 8], (hp.set b5 (0, [.int (nI n), .ref q1, .ref q2, .ref q3, .int (if (2 : Int32) < 11 then 11 else 2)])))) rfl ?_
  refine px_gf 8 46 3 5 (.ref b5) rfl rfl (px_ne hc n85.symm) rfl ?_
  show px_Go _ _ (47, [(2, .int 0), (0, .ref 8), (1, .int 11)], [.ref b5], (hp.set b5 (0, [.int (nI n), .ref q1, .ref q2, .ref q3, .int (if (2 : Int32) < 11 then 11 else 2)]))) _
  refine px_a 1 (f' := (48, [(2, .int 0), (0, .ref 8), (1, .int 11)], [.ref 8, .ref b5], (hp.set b5 (0, [.int (nI n), .ref q1, .ref q2, .ref q3, .int (if (2 : Int32) < 11 then 11 else 2)])))) rfl ?_
  refine px_gf 8 64 3 8 (.long 0) rfl rfl (px_ne hc n85.symm) rfl ?_
  show px_Go _ _ (51, [(2, .int 0), (0, .ref 8), (1, .int 11)], [.long 0, .ref b5], (hp.set b5 (0, [.int (nI n), .ref q1, .ref q2, .ref q3, .int (if (2 : Int32) < 11 then 11 else 2)]))) _
  refine px_a 1 (f' := (52, [(2, .int 0), (0, .ref 8), (1, .int 11)], [.int 1, .long 0, .ref b5], (hp.set b5 (0, [.int (nI n), .ref q1, .ref q2, .ref q3, .int (if (2 : Int32) < 11 then 11 else 2)])))) rfl ?_
  refine px_cv b5 (as := [.long 0, .int 1]) (rest := []) rfl rfl (px_self he) rfl rfl rfl rfl (Nat.le_of_ble_eq_true rfl) (c_add_0 hn36 (px_self he) (px_ne h2 n52) (px_ne h3 n53) g3 n53 n23) ?_
  show px_Go _ _ (55, [(2, .int 0), (0, .ref 8), (1, .int 11)], [.int 0], ((hp.set b5 (0, [.int (nI n), .ref q1, .ref q2, .ref q3, .int (if (2 : Int32) < 11 then 11 else 2)])).set q3 (10, ((List.replicate (n + 1) (Value.int 0)).set n (.int 1))))) _
  refine px_a 2 (f' := (59, [(2, .int 0), (0, .ref 8), (1, .int 11)], [.int 0], ((hp.set b5 (0, [.int (nI n), .ref q1, .ref q2, .ref q3, .int (if (2 : Int32) < 11 then 11 else 2)])).set q3 (10, ((List.replicate (n + 1) (Value.int 0)).set n (.int 1)))))) rfl ?_
  exact px_ri rfl rfl rfl
set_option maxRecDepth 20000 in
theorem c_colour_13 {d : Nat} {hp : px_H} {b2 b3 b4 b5 b6 : Nat} {fd : Int32}  {q1 q2 q3 : Nat} {mo : Int32} {w h : Int32} {n : Nat} (hn36 : n ≤ 36) (hc : hp[(8 : Nat)]? = some (3, [.int w, .int h, .ref b2, .ref b3, .ref b4, .ref b5, .ref b6, .int 0, .long 0, .int fd])) (he : hp[b5]? = some (0, [.int (nI n), .ref q1, .ref q2, .ref q3, .int mo])) (ge5 : 8 ≤ b5) (n85 : 8 ≠ b5) (h2 : hp[q2]? = some (12, (List.replicate n (Value.int 0)))) (g2 : 8 ≤ q2) (n52 : b5 ≠ q2) (h3 : hp[q3]? = some (10, (List.replicate (n + 1) (Value.int 0)))) (g3 : 8 ≤ q3) (n53 : b5 ≠ q3) (n23 : q2 ≠ q3) : px_Go (d + 2) 48 (0, [(0, .ref 8), (1, .int 13)], [], hp) (.inl (some (.int 0)), (hp.set b5 (0, [.int (nI n), .ref q1, .ref q2, .ref q3, .int (if (2 : Int32) < 13 then 13 else 2)])).set q3 (10, ((List.replicate (n + 1) (Value.int 0)).set n (.int 1)))) := by
  refine px_a 1 (f' := (1, [(0, .ref 8), (1, .int 13)], [.int 13], hp)) rfl ?_
  refine px_cl (as := [.int 13]) (rest := []) rfl rfl (c_prime_13) ?_
  show px_Go _ _ (4, [(0, .ref 8), (1, .int 13)], [.int 1], hp) _
  refine px_a 2 (f' := (10, [(0, .ref 8), (1, .int 13)], [.ref 8], hp)) rfl ?_
  refine px_gf 8 46 3 5 (.ref b5) rfl rfl hc rfl ?_
  show px_Go _ _ (13, [(0, .ref 8), (1, .int 13)], [.ref b5], hp) _
  refine px_a 1 (f' := (14, [(0, .ref 8), (1, .int 13)], [.int 13, .ref b5], hp)) rfl ?_
  refine px_cv b5 (as := [.int 13]) (rest := []) rfl rfl he rfl rfl rfl rfl (Nat.le_of_ble_eq_true rfl) (c_begin_0 (q := 13) hn36 he ge5 h2 g2 n52) ?_
  show px_Go _ _ (17, [(0, .ref 8), (1, .int 13)], [], (hp.set b5 (0, [.int (nI n), .ref q1, .ref q2, .ref q3, .int (if (2 : Int32) < 13 then 13 else 2)]))) _
  refine px_a 4 (f' := (21, [(2, .int 0), (0, .ref 8), (1, .int 13)], [.ref 8, .int 0], (hp.set b5 (0, [.int (nI n), .ref q1, .ref q2, .ref q3, .int (if (2 : Int32) < 13 then 13 else 2)])))) rfl ?_
  refine px_gf 8 72 3 7 (.int 0) rfl rfl (px_ne hc n85.symm) rfl ?_
  show px_Go _ _ (24, [(2, .int 0), (0, .ref 8), (1, .int 13)], [.int 0, .int 0], (hp.set b5 (0, [.int (nI n), .ref q1, .ref q2, .ref q3, .int (if (2 : Int32) < 13 then 13 else 2)]))) _
  refine px_a 2 (f' := (44, [(2, .int 0), (0, .ref 8), (1, .int 13)], [.ref 8], (hp.set b5 (0, [.int (nI n), .ref q1, .ref q2, .ref q3, .int (if (2 : Int32) < 13 then 13 else 2)])))) rfl ?_
  refine px_gf 8 46 3 5 (.ref b5) rfl rfl (px_ne hc n85.symm) rfl ?_
  show px_Go _ _ (47, [(2, .int 0), (0, .ref 8), (1, .int 13)], [.ref b5], (hp.set b5 (0, [.int (nI n), .ref q1, .ref q2, .ref q3, .int (if (2 : Int32) < 13 then 13 else 2)]))) _
  refine px_a 1 (f' := (48, [(2, .int 0), (0, .ref 8), (1, .int 13)], [.ref 8, .ref b5], (hp.set b5 (0, [.int (nI n), .ref q1, .ref q2, .ref q3, .int (if (2 : Int32) < 13 then 13 else 2)])))) rfl ?_
  refine px_gf 8 64 3 8 (.long 0) rfl rfl (px_ne hc n85.symm) rfl ?_
  show px_Go _ _ (51, [(2, .int 0), (0, .ref 8), (1, .int 13)], [.long 0, .ref b5], (hp.set b5 (0, [.int (nI n), .ref q1, .ref q2, .ref q3, .int (if (2 : Int32) < 13 then 13 else 2)]))) _
  refine px_a 1 (f' := (52, [(2, .int 0), (0, .ref 8), (1, .int 13)], [.int 1, .long 0, .ref b5], (hp.set b5 (0, [.int (nI n), .ref q1, .ref q2, .ref q3, .int (if (2 : Int32) < 13 then 13 else 2)])))) rfl ?_
  refine px_cv b5 (as := [.long 0, .int 1]) (rest := []) rfl rfl (px_self he) rfl rfl rfl rfl (Nat.le_of_ble_eq_true rfl) (c_add_0 hn36 (px_self he) (px_ne h2 n52) (px_ne h3 n53) g3 n53 n23) ?_
  show px_Go _ _ (55, [(2, .int 0), (0, .ref 8), (1, .int 13)], [.int 0], ((hp.set b5 (0, [.int (nI n), .ref q1, .ref q2, .ref q3, .int (if (2 : Int32) < 13 then 13 else 2)])).set q3 (10, ((List.replicate (n + 1) (Value.int 0)).set n (.int 1))))) _
  refine px_a 2 (f' := (59, [(2, .int 0), (0, .ref 8), (1, .int 13)], [.int 0], ((hp.set b5 (0, [.int (nI n), .ref q1, .ref q2, .ref q3, .int (if (2 : Int32) < 13 then 13 else 2)])).set q3 (10, ((List.replicate (n + 1) (Value.int 0)).set n (.int 1)))))) rfl ?_
  exact px_ri rfl rfl rfl
