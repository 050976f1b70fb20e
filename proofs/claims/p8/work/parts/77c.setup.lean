def px_H1 (c0 c1 c2 c3 c4 c5 c6 c7 : px_C) (w h : Int32) (n : Nat) : px_H :=
  (c0 :: c1 :: c2 :: c3 :: c4 :: c5 :: c6 :: c7 :: (3, [.int w, .int h, .ref 9, .ref 28, .ref 29, .ref 30, .ref (34 + n), .int 0, .long 0, .int 0]) :: (13, [.ref 10, .ref 13, .ref 16, .ref 19, .ref 22, .ref 25]) :: (1, [.int w, .int h, .ref 11, .ref 12, .int 0, .int 0, .int 0, .long 0]) :: (10, List.replicate 8 (Value.int 0)) :: (11, List.replicate 160 (Value.long 0)) :: (1, [.int w, .int h, .ref 14, .ref 15, .int 0, .int 0, .int 0, .long 0]) :: (10, List.replicate 8 (Value.int 0)) :: (11, List.replicate 160 (Value.long 0)) :: (1, [.int w, .int h, .ref 17, .ref 18, .int 0, .int 0, .int 0, .long 0]) :: (10, List.replicate 8 (Value.int 0)) :: (11, List.replicate 160 (Value.long 0)) :: (1, [.int w, .int h, .ref 20, .ref 21, .int 0, .int 0, .int 0, .long 0]) :: (10, List.replicate 8 (Value.int 0)) :: (11, List.replicate 160 (Value.long 0)) :: (1, [.int w, .int h, .ref 23, .ref 24, .int 0, .int 0, .int 0, .long 0]) :: (10, List.replicate 8 (Value.int 0)) :: (11, List.replicate 160 (Value.long 0)) :: (1, [.int w, .int h, .ref 26, .ref 27, .int 0, .int 0, .int 0, .long 0]) :: (10, List.replicate 8 (Value.int 0)) :: (11, List.replicate 160 (Value.long 0)) :: (10, List.replicate n (Value.int 0)) :: (10, List.replicate n (Value.int 0)) :: (0, [.int (nI n), .ref 31, .ref (32 + n), .ref (33 + n), .int 2]) :: (((14, (List.range n).map (fun i => Value.ref (31 + 1 + i))) :: List.replicate n (10, List.replicate (n + 1) (.int 0)) ++ [(12, List.replicate n (Value.int 0)), (10, List.replicate (n + 1) (Value.int 0))]) ++ [(2, [.int w, .int h, .ref (35 + n), .ref (36 + n), .ref (37 + n), .int 0, .int 0, .long 0]), (10, List.replicate 84 (Value.int 0)), (10, List.replicate 84 (Value.int 0)), (10, List.replicate 84 (Value.int 0))]))
set_option maxRecDepth 20000 in
theorem k_class {d : Nat} {c0 c1 c2 c3 c4 c5 c6 c7 : px_C} {w h x y : Int32} {n : Nat} (hw : (if 1 < (if x < 6 then x else 6) then (if x < 6 then x else 6) else 1) = w) (hh : (if 1 < (if y < 6 then y else 6) then (if y < 6 then y else 6) else 1) = h) (hn : w * h = nI n) (hn36 : n ≤ 36) : px_Go (d + 1) 51 (0, [(0, .ref 8), (1, .int x), (2, .int y)], [], [c0, c1, c2, c3, c4, c5, c6, c7, (3, [.int 0, .int 0, .null, .null, .null, .null, .null, .int 0, .long 0, .int 0])]) (.inl none, px_H1 c0 c1 c2 c3 c4 c5 c6 c7 w h n) := by
  show px_Go _ _ (0, [(0, .ref 8), (1, .int x), (2, .int y)], [], [c0, c1, c2, c3, c4, c5, c6, c7, (3, [.int 0, .int 0, .null, .null, .null, .null, .null, .int 0, .long 0, .int 0])]) _
  refine px_a 8 (f' := (15, [(0, .ref 8), (1, .int x), (2, .int y)], [.int (if 1 < (if x < 6 then x else 6) then (if x < 6 then x else 6) else 1), .ref 8], [c0, c1, c2, c3, c4, c5, c6, c7, (3, [.int 0, .int 0, .null, .null, .null, .null, .null, .int 0, .long 0, .int 0])])) rfl ?_
  refine px_pf 8 18 3 0 rfl rfl rfl (by omega) (by simp) rfl rfl (by decide) ?_
  show px_Go _ _ (18, [(0, .ref 8), (1, .int x), (2, .int y)], [], [c0, c1, c2, c3, c4, c5, c6, c7, (3, [.int (if 1 < (if x < 6 then x else 6) then (if x < 6 then x else 6) else 1), .int 0, .null, .null, .null, .null, .null, .int 0, .long 0, .int 0])]) _
  refine px_a 6 (f' := (29, [(0, .ref 8), (1, .int x), (2, .int y)], [.int (if 1 < (if y < 6 then y else 6) then (if y < 6 then y else 6) else 1), .ref 8], [c0, c1, c2, c3, c4, c5, c6, c7, (3, [.int (if 1 < (if x < 6 then x else 6) then (if x < 6 then x else 6) else 1), .int 0, .null, .null, .null, .null, .null, .int 0, .long 0, .int 0])])) rfl ?_
  refine px_pf 8 22 3 1 rfl rfl rfl (by omega) (by simp) rfl rfl (by decide) ?_
  show px_Go _ _ (32, [(0, .ref 8), (1, .int x), (2, .int y)], [], [c0, c1, c2, c3, c4, c5, c6, c7, (3, [.int (if 1 < (if x < 6 then x else 6) then (if x < 6 then x else 6) else 1), .int (if 1 < (if y < 6 then y else 6) then (if y < 6 then y else 6) else 1), .null, .null, .null, .null, .null, .int 0, .long 0, .int 0])]) _
  rw [hw, hh]
  refine n_a ?_
  refine n_b hn hn36 ?_
  exact n_c hn36 (by simp)
theorem px_H1_len {c0 c1 c2 c3 c4 c5 c6 c7 : px_C} {w h : Int32} {n : Nat} : (px_H1 c0 c1 c2 c3 c4 c5 c6 c7 w h n).length = 38 + n := by
  unfold px_H1
  simp only [List.length_cons, List.length_append, List.length_nil, List.length_replicate]
  omega
def px_s0 (L : Nat) (xs : Nat → Int32) : List Value := (List.range L).map (fun j => Value.int (xs j))
def px_x (L : Nat) (xs : Nat → Int32) (k : Nat) : Int32 := if k < L then xs k else 0
theorem px_s0_len (L : Nat) (xs : Nat → Int32) : (px_s0 L xs).length = L := by unfold px_s0; simp
theorem px_s0_get {L : Nat} {xs : Nat → Int32} {k : Nat} (h : k < L) : (px_s0 L xs)[k]? = some (.int (xs k)) := by
  unfold px_s0
  simp [h]
set_option maxRecDepth 20000 in
theorem l_cell_1 {d : Nat} {hp : px_H} {L : Nat} {xs : Nat → Int32} {k : Nat} (h0 : hp[(0 : Nat)]? = some (20, px_s0 L xs)) (hL : L ≤ 10000) (hk : k < L) : px_Go d 4 (0, [(0, .ref 0), (1, .int (nI k))], [], hp) (.inl (some (.int (xs k))), hp) := by
  refine px_a 2 (f' := (2, [(0, .ref 0), (1, .int (nI k))], [.ref 0, .int (nI k)], hp)) rfl ?_
  refine px_len_ 0 rfl h0 (by decide) (by decide) ?_
  rw [show (px_s0 L xs).length.toInt32 = nI L by rw [px_s0_len]; rfl]
  show px_Go _ _ (3, [(0, .ref 0), (1, .int (nI k))], [.int (nI L), .int (nI k)], hp) _
  refine px_b2 false 12 rfl rfl (decide_eq_false (nI_ge hk (by omega))) ?_
  show px_Go _ _ (6, [(0, .ref 0), (1, .int (nI k))], [], hp) _
  refine px_a 2 (f' := (8, [(0, .ref 0), (1, .int (nI k))], [.int (nI k), .ref 0], hp)) rfl ?_
  refine px_al 0 (.int (xs k)) rfl h0 (Or.inl ⟨rfl, Or.inr rfl⟩) (nI_pos (by omega)) (by rw [nI_clamp (by omega)]; exact px_s0_get hk) ?_
  show px_Go _ _ (9, [(0, .ref 0), (1, .int (nI k))], [.int (xs k)], hp) _
  refine px_a 1 (f' := (13, [(0, .ref 0), (1, .int (nI k))], [.int (xs k)], hp)) rfl ?_
  exact px_ri rfl rfl rfl
set_option maxRecDepth 20000 in
theorem l_cell_2 {d : Nat} {hp : px_H} {L : Nat} {xs : Nat → Int32} {k : Nat} (h0 : hp[(0 : Nat)]? = some (20, px_s0 L xs)) (hk6 : k ≤ 10000) (hk : ¬ k < L) : px_Go d 4 (0, [(0, .ref 0), (1, .int (nI k))], [], hp) (.inl (some (.int 0)), hp) := by
  refine px_a 2 (f' := (2, [(0, .ref 0), (1, .int (nI k))], [.ref 0, .int (nI k)], hp)) rfl ?_
  refine px_len_ 0 rfl h0 (by decide) (by decide) ?_
  rw [show (px_s0 L xs).length.toInt32 = nI L by rw [px_s0_len]; rfl]
  show px_Go _ _ (3, [(0, .ref 0), (1, .int (nI k))], [.int (nI L), .int (nI k)], hp) _
  refine px_b2 true 12 rfl rfl (decide_eq_true (nI_le (Nat.le_of_not_lt hk) (by omega))) ?_
  show px_Go _ _ (12, [(0, .ref 0), (1, .int (nI k))], [], hp) _
  refine px_a 1 (f' := (13, [(0, .ref 0), (1, .int (nI k))], [.int 0], hp)) rfl ?_
  exact px_ri rfl rfl rfl
theorem l_cell {d : Nat} {hp : px_H} {L : Nat} {xs : Nat → Int32} (k : Nat) (h0 : hp[(0 : Nat)]? = some (20, px_s0 L xs)) (hL : L ≤ 10000) (hk6 : k ≤ 10000) : px_Go d 4 (0, [(0, .ref 0), (1, .int (nI k))], [], hp) (.inl (some (.int (px_x L xs k))), hp) := by
  unfold px_x
  by_cases hk : k < L
  · rw [if_pos hk]; exact l_cell_1 h0 hL hk
  · rw [if_neg hk]; exact l_cell_2 h0 hk6 hk
def px_H2 (c0 c1 c2 c3 c4 c5 c6 c7 : px_C) (w h : Int32) (n : Nat) : px_H :=
  px_H1 c0 c1 c2 c3 c4 c5 c6 c7 w h n ++ [(4, [.int 0, .int w, .int h, .ref (39 + n), .int 0, .ref (40 + n), .ref (41 + n), .ref (42 + n), .int 0, .ref (43 + n), .ref (44 + n), .ref (45 + n), .ref (46 + n), .int 0, .ref (47 + n), .int 0, .ref (48 + n), .int 0, .ref (49 + n), .ref (50 + n), .ref (51 + n)]), (12, List.replicate 36 (Value.int 0)), (10, List.replicate 6 (Value.int 0)), (10, List.replicate 36 (Value.int 0)), (10, List.replicate 36 (Value.int 0)), (11, List.replicate 512 (Value.long 0)), (12, List.replicate 36 (Value.int 0)), (10, List.replicate 1332 (Value.int 0)), (10, List.replicate 37 (Value.int 0)), (10, List.replicate 36 (Value.int 0)), (10, List.replicate 200 (Value.int 0)), (10, List.replicate 200 (Value.int 0)), (10, List.replicate 200 (Value.int 0)), (12, List.replicate 37 (Value.int 0)), (11, List.replicate 1 (Value.long 0))]
set_option maxRecDepth 20000 in
theorem l_setup {d : Nat} {c1 c2 c3 c4 c5 c6 c7 : px_C} {L : Nat} {xs : Nat → Int32} {w h : Int32} {n : Nat} {r : px_E} (hL : L ≤ 10000) (hw : (if 1 < (if px_x L xs 0 < 6 then px_x L xs 0 else 6) then (if px_x L xs 0 < 6 then px_x L xs 0 else 6) else 1) = w) (hh : (if 1 < (if px_x L xs 1 < 6 then px_x L xs 1 else 6) then (if px_x L xs 1 < 6 then px_x L xs 1 else 6) else 1) = h) (hw2 : (if 1 ≤ px_x L xs 0 then (if px_x L xs 0 ≤ 6 then px_x L xs 0 else 6) else 1) = w) (hh2 : (if 1 ≤ px_x L xs 1 then (if px_x L xs 1 ≤ 6 then px_x L xs 1 else 6) else 1) = h) (hn : w * h = nI n) (hn36 : n ≤ 36) (K : px_Go (d + 2) 6 (43, [(4, .int 2), (3, .ref (52 + n)), (2, .ref (38 + n)), (1, .ref 8), (0, .ref 0)], [], (px_H2 (20, px_s0 L xs) c1 c2 c3 c4 c5 c6 c7 w h n)) r) : px_Go (d + 2) 6 (0, [(0, .ref 0)], [], [(20, px_s0 L xs), c1, c2, c3, c4, c5, c6, c7]) r := by
  show px_Go _ _ (0, [(0, .ref 0)], [], [(20, px_s0 L xs), c1, c2, c3, c4, c5, c6, c7]) _
  refine px_nwo 8 rfl rfl rfl rfl ?_
  show px_Go _ _ (3, [(0, .ref 0)], [.ref 8], [(20, px_s0 L xs), c1, c2, c3, c4, c5, c6, c7, (3, [.int 0, .int 0, .null, .null, .null, .null, .null, .int 0, .long 0, .int 0])]) _
  refine px_a 3 (f' := (6, [(0, .ref 0)], [.int 0, .ref 0, .ref 8, .ref 8], [(20, px_s0 L xs), c1, c2, c3, c4, c5, c6, c7, (3, [.int 0, .int 0, .null, .null, .null, .null, .null, .int 0, .long 0, .int 0])])) rfl ?_
  refine px_cl (as := [.ref 0, .int 0]) (rest := [.ref 8, .ref 8]) rfl rfl (l_cell 0 rfl hL (by decide)) ?_
  show px_Go _ _ (9, [(0, .ref 0)], [.int (px_x L xs 0), .ref 8, .ref 8], [(20, px_s0 L xs), c1, c2, c3, c4, c5, c6, c7, (3, [.int 0, .int 0, .null, .null, .null, .null, .null, .int 0, .long 0, .int 0])]) _
  refine px_a 2 (f' := (11, [(0, .ref 0)], [.int 1, .ref 0, .int (px_x L xs 0), .ref 8, .ref 8], [(20, px_s0 L xs), c1, c2, c3, c4, c5, c6, c7, (3, [.int 0, .int 0, .null, .null, .null, .null, .null, .int 0, .long 0, .int 0])])) rfl ?_
  refine px_cl (as := [.ref 0, .int 1]) (rest := [.int (px_x L xs 0), .ref 8, .ref 8]) rfl rfl (l_cell 1 rfl hL (by decide)) ?_
  show px_Go _ _ (14, [(0, .ref 0)], [.int (px_x L xs 1), .int (px_x L xs 0), .ref 8, .ref 8], [(20, px_s0 L xs), c1, c2, c3, c4, c5, c6, c7, (3, [.int 0, .int 0, .null, .null, .null, .null, .null, .int 0, .long 0, .int 0])]) _
  refine px_cl (as := [.ref 8, .int (px_x L xs 0), .int (px_x L xs 1)]) (rest := [.ref 8]) rfl rfl (k_class hw hh hn hn36) ?_
  show px_Go _ _ (17, [(0, .ref 0)], [.ref 8], px_H1 (20, px_s0 L xs) c1 c2 c3 c4 c5 c6 c7 w h n) _
  refine px_a 1 (f' := (18, [(1, .ref 8), (0, .ref 0)], [], px_H1 (20, px_s0 L xs) c1 c2 c3 c4 c5 c6 c7 w h n)) rfl ?_
  refine px_nwo (38 + n) rfl rfl rfl px_H1_len ?_
  show px_Go _ _ (21, [(1, .ref 8), (0, .ref 0)], [.ref (38 + n)], (px_H1 (20, px_s0 L xs) c1 c2 c3 c4 c5 c6 c7 w h n ++ [(4, [.int 0, .int 0, .int 0, .null, .int 0, .null, .null, .null, .int 0, .null, .null, .null, .null, .int 0, .null, .int 0, .null, .int 0, .null, .null, .null])])) _
  refine px_a 3 (f' := (24, [(1, .ref 8), (0, .ref 0)], [.int 0, .ref 0, .ref (38 + n), .ref (38 + n)], (px_H1 (20, px_s0 L xs) c1 c2 c3 c4 c5 c6 c7 w h n ++ [(4, [.int 0, .int 0, .int 0, .null, .int 0, .null, .null, .null, .int 0, .null, .null, .null, .null, .int 0, .null, .int 0, .null, .int 0, .null, .null, .null])]))) rfl ?_
  refine px_cl (as := [.ref 0, .int 0]) (rest := [.ref (38 + n), .ref (38 + n)]) rfl rfl (l_cell 0 rfl hL (by decide)) ?_
  show px_Go _ _ (27, [(1, .ref 8), (0, .ref 0)], [.int (px_x L xs 0), .ref (38 + n), .ref (38 + n)], (px_H1 (20, px_s0 L xs) c1 c2 c3 c4 c5 c6 c7 w h n ++ [(4, [.int 0, .int 0, .int 0, .null, .int 0, .null, .null, .null, .int 0, .null, .null, .null, .null, .int 0, .null, .int 0, .null, .int 0, .null, .null, .null])])) _
  refine px_a 2 (f' := (29, [(1, .ref 8), (0, .ref 0)], [.int 1, .ref 0, .int (px_x L xs 0), .ref (38 + n), .ref (38 + n)], (px_H1 (20, px_s0 L xs) c1 c2 c3 c4 c5 c6 c7 w h n ++ [(4, [.int 0, .int 0, .int 0, .null, .int 0, .null, .null, .null, .int 0, .null, .null, .null, .null, .int 0, .null, .int 0, .null, .int 0, .null, .null, .null])]))) rfl ?_
  refine px_cl (as := [.ref 0, .int 1]) (rest := [.int (px_x L xs 0), .ref (38 + n), .ref (38 + n)]) rfl rfl (l_cell 1 rfl hL (by decide)) ?_
  show px_Go _ _ (32, [(1, .ref 8), (0, .ref 0)], [.int (px_x L xs 1), .int (px_x L xs 0), .ref (38 + n), .ref (38 + n)], (px_H1 (20, px_s0 L xs) c1 c2 c3 c4 c5 c6 c7 w h n ++ [(4, [.int 0, .int 0, .int 0, .null, .int 0, .null, .null, .null, .int 0, .null, .null, .null, .null, .int 0, .null, .int 0, .null, .int 0, .null, .null, .null])])) _
  refine px_cl (as := [.ref (38 + n), .int (px_x L xs 0), .int (px_x L xs 1)]) (rest := [.ref (38 + n)]) rfl rfl (k_model (f := 38 + n) (L := 39 + n) (px_z8 px_H1_len) (by omega) (by omega) (by simp only [List.length_append, px_H1_len, List.length_cons, List.length_nil]; omega)) ?_
  rw [px_pa px_H1_len, hw2, hh2, show 39 + n + 1 = 40 + n by omega, show 39 + n + 2 = 41 + n by omega, show 39 + n + 3 = 42 + n by omega, show 39 + n + 4 = 43 + n by omega, show 39 + n + 5 = 44 + n by omega, show 39 + n + 6 = 45 + n by omega, show 39 + n + 7 = 46 + n by omega, show 39 + n + 8 = 47 + n by omega, show 39 + n + 9 = 48 + n by omega, show 39 + n + 10 = 49 + n by omega, show 39 + n + 11 = 50 + n by omega, show 39 + n + 12 = 51 + n by omega]
  show px_Go _ _ (35, [(1, .ref 8), (0, .ref 0)], [.ref (38 + n)], (px_H1 (20, px_s0 L xs) c1 c2 c3 c4 c5 c6 c7 w h n ++ [(4, [.int 0, .int w, .int h, .ref (39 + n), .int 0, .ref (40 + n), .ref (41 + n), .ref (42 + n), .int 0, .ref (43 + n), .ref (44 + n), .ref (45 + n), .ref (46 + n), .int 0, .ref (47 + n), .int 0, .ref (48 + n), .int 0, .ref (49 + n), .ref (50 + n), .ref (51 + n)]), (12, List.replicate 36 (Value.int 0)), (10, List.replicate 6 (Value.int 0)), (10, List.replicate 36 (Value.int 0)), (10, List.replicate 36 (Value.int 0)), (11, List.replicate 512 (Value.long 0)), (12, List.replicate 36 (Value.int 0)), (10, List.replicate 1332 (Value.int 0)), (10, List.replicate 37 (Value.int 0)), (10, List.replicate 36 (Value.int 0)), (10, List.replicate 200 (Value.int 0)), (10, List.replicate 200 (Value.int 0)), (10, List.replicate 200 (Value.int 0)), (12, List.replicate 37 (Value.int 0))])) _
  refine px_a 2 (f' := (37, [(2, .ref (38 + n)), (1, .ref 8), (0, .ref 0)], [.int 1], (px_H1 (20, px_s0 L xs) c1 c2 c3 c4 c5 c6 c7 w h n ++ [(4, [.int 0, .int w, .int h, .ref (39 + n), .int 0, .ref (40 + n), .ref (41 + n), .ref (42 + n), .int 0, .ref (43 + n), .ref (44 + n), .ref (45 + n), .ref (46 + n), .int 0, .ref (47 + n), .int 0, .ref (48 + n), .int 0, .ref (49 + n), .ref (50 + n), .ref (51 + n)]), (12, List.replicate 36 (Value.int 0)), (10, List.replicate 6 (Value.int 0)), (10, List.replicate 36 (Value.int 0)), (10, List.replicate 36 (Value.int 0)), (11, List.replicate 512 (Value.long 0)), (12, List.replicate 36 (Value.int 0)), (10, List.replicate 1332 (Value.int 0)), (10, List.replicate 37 (Value.int 0)), (10, List.replicate 36 (Value.int 0)), (10, List.replicate 200 (Value.int 0)), (10, List.replicate 200 (Value.int 0)), (10, List.replicate 200 (Value.int 0)), (12, List.replicate 37 (Value.int 0))]))) rfl ?_
  refine px_na (52 + n) 1 rfl rfl (by decide) (by decide) (by decide) (by simp only [List.length_append, px_H1_len, List.length_cons, List.length_nil]; omega) ?_
  rw [List.append_assoc]
  show px_Go _ _ (39, [(2, .ref (38 + n)), (1, .ref 8), (0, .ref 0)], [.ref (52 + n)], (px_H2 (20, px_s0 L xs) c1 c2 c3 c4 c5 c6 c7 w h n)) _
  refine px_a 3 (f' := (43, [(4, .int 2), (3, .ref (52 + n)), (2, .ref (38 + n)), (1, .ref 8), (0, .ref 0)], [], (px_H2 (20, px_s0 L xs) c1 c2 c3 c4 c5 c6 c7 w h n))) rfl ?_
  exact K
