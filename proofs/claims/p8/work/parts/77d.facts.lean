theorem px_ati {hp : px_H} {i j : Nat} {x : Option px_C} (e : i = j) (h : hp[j]? = x) : hp[i]? = x := e ▸ h
theorem f_8 {c0 c1 c2 c3 c4 c5 c6 c7 : px_C} {w h : Int32} {n : Nat} : (px_H2 c0 c1 c2 c3 c4 c5 c6 c7 w h n)[(8 : Nat)]? = some (3, [.int w, .int h, .ref 9, .ref 28, .ref 29, .ref 30, .ref (34 + n), .int 0, .long 0, .int 0]) := rfl
theorem f_28 {c0 c1 c2 c3 c4 c5 c6 c7 : px_C} {w h : Int32} {n : Nat} : (px_H2 c0 c1 c2 c3 c4 c5 c6 c7 w h n)[(28 : Nat)]? = some (10, List.replicate n (Value.int 0)) := rfl
theorem f_29 {c0 c1 c2 c3 c4 c5 c6 c7 : px_C} {w h : Int32} {n : Nat} : (px_H2 c0 c1 c2 c3 c4 c5 c6 c7 w h n)[(29 : Nat)]? = some (10, List.replicate n (Value.int 0)) := rfl
theorem f_30 {c0 c1 c2 c3 c4 c5 c6 c7 : px_C} {w h : Int32} {n : Nat} : (px_H2 c0 c1 c2 c3 c4 c5 c6 c7 w h n)[(30 : Nat)]? = some (0, [.int (nI n), .ref 31, .ref (32 + n), .ref (33 + n), .int 2]) := rfl
theorem f_0 {c0 c1 c2 c3 c4 c5 c6 c7 : px_C} {w h : Int32} {n : Nat} : (px_H2 c0 c1 c2 c3 c4 c5 c6 c7 w h n)[(0 : Nat)]? = some c0 := rfl
theorem f_H1 {c0 c1 c2 c3 c4 c5 c6 c7 : px_C} {w h : Int32} {n : Nat} : ∃ A : px_H, A.length = 32 ∧ px_H1 c0 c1 c2 c3 c4 c5 c6 c7 w h n = A ++ (List.replicate n (10, List.replicate (n + 1) (.int 0)) ++ [(12, List.replicate n (Value.int 0)), (10, List.replicate (n + 1) (Value.int 0)), (2, [.int w, .int h, .ref (35 + n), .ref (36 + n), .ref (37 + n), .int 0, .int 0, .long 0]), (10, List.replicate 84 (Value.int 0)), (10, List.replicate 84 (Value.int 0)), (10, List.replicate 84 (Value.int 0))]) := by
  refine ⟨(px_H1 c0 c1 c2 c3 c4 c5 c6 c7 w h n).take 32, ?_, ?_⟩
  · rw [List.length_take, px_H1_len]; omega
  · unfold px_H1
    simp only [List.cons_append, List.append_assoc, List.nil_append, List.take_succ_cons, List.take_zero]
theorem f_n0 {c0 c1 c2 c3 c4 c5 c6 c7 : px_C} {w h : Int32} {n : Nat} : (px_H2 c0 c1 c2 c3 c4 c5 c6 c7 w h n)[32 + n]? = some (12, List.replicate n (Value.int 0)) := by
  obtain ⟨A, hA, e⟩ := f_H1 (c0 := c0) (c1 := c1) (c2 := c2) (c3 := c3) (c4 := c4) (c5 := c5) (c6 := c6) (c7 := c7) (w := w) (h := h) (n := n)
  unfold px_H2
  rw [e]
  exact px_apl (px_ati (show 32 + n = 32 + (n + 0) by omega) (px_apq hA (px_apq List.length_replicate rfl)))
theorem f_n1 {c0 c1 c2 c3 c4 c5 c6 c7 : px_C} {w h : Int32} {n : Nat} : (px_H2 c0 c1 c2 c3 c4 c5 c6 c7 w h n)[33 + n]? = some (10, List.replicate (n + 1) (Value.int 0)) := by
  obtain ⟨A, hA, e⟩ := f_H1 (c0 := c0) (c1 := c1) (c2 := c2) (c3 := c3) (c4 := c4) (c5 := c5) (c6 := c6) (c7 := c7) (w := w) (h := h) (n := n)
  unfold px_H2
  rw [e]
  exact px_apl (px_ati (show 33 + n = 32 + (n + 1) by omega) (px_apq hA (px_apq List.length_replicate rfl)))
theorem f_n2 {c0 c1 c2 c3 c4 c5 c6 c7 : px_C} {w h : Int32} {n : Nat} : (px_H2 c0 c1 c2 c3 c4 c5 c6 c7 w h n)[34 + n]? = some (2, [.int w, .int h, .ref (35 + n), .ref (36 + n), .ref (37 + n), .int 0, .int 0, .long 0]) := by
  obtain ⟨A, hA, e⟩ := f_H1 (c0 := c0) (c1 := c1) (c2 := c2) (c3 := c3) (c4 := c4) (c5 := c5) (c6 := c6) (c7 := c7) (w := w) (h := h) (n := n)
  unfold px_H2
  rw [e]
  exact px_apl (px_ati (show 34 + n = 32 + (n + 2) by omega) (px_apq hA (px_apq List.length_replicate rfl)))
theorem f_m0 {c0 c1 c2 c3 c4 c5 c6 c7 : px_C} {w h : Int32} {n : Nat} : (px_H2 c0 c1 c2 c3 c4 c5 c6 c7 w h n)[38 + n]? = some (4, [.int 0, .int w, .int h, .ref (39 + n), .int 0, .ref (40 + n), .ref (41 + n), .ref (42 + n), .int 0, .ref (43 + n), .ref (44 + n), .ref (45 + n), .ref (46 + n), .int 0, .ref (47 + n), .int 0, .ref (48 + n), .int 0, .ref (49 + n), .ref (50 + n), .ref (51 + n)]) := px_ati (show 38 + n = 38 + n + 0 by omega) (px_apq px_H1_len rfl)
theorem f_m1 {c0 c1 c2 c3 c4 c5 c6 c7 : px_C} {w h : Int32} {n : Nat} : (px_H2 c0 c1 c2 c3 c4 c5 c6 c7 w h n)[39 + n]? = some (12, List.replicate 36 (Value.int 0)) := px_ati (show 39 + n = 38 + n + 1 by omega) (px_apq px_H1_len rfl)
theorem f_m2 {c0 c1 c2 c3 c4 c5 c6 c7 : px_C} {w h : Int32} {n : Nat} : (px_H2 c0 c1 c2 c3 c4 c5 c6 c7 w h n)[40 + n]? = some (10, List.replicate 6 (Value.int 0)) := px_ati (show 40 + n = 38 + n + 2 by omega) (px_apq px_H1_len rfl)
theorem f_m3 {c0 c1 c2 c3 c4 c5 c6 c7 : px_C} {w h : Int32} {n : Nat} : (px_H2 c0 c1 c2 c3 c4 c5 c6 c7 w h n)[41 + n]? = some (10, List.replicate 36 (Value.int 0)) := px_ati (show 41 + n = 38 + n + 3 by omega) (px_apq px_H1_len rfl)
theorem f_m4 {c0 c1 c2 c3 c4 c5 c6 c7 : px_C} {w h : Int32} {n : Nat} : (px_H2 c0 c1 c2 c3 c4 c5 c6 c7 w h n)[42 + n]? = some (10, List.replicate 36 (Value.int 0)) := px_ati (show 42 + n = 38 + n + 4 by omega) (px_apq px_H1_len rfl)
theorem f_m5 {c0 c1 c2 c3 c4 c5 c6 c7 : px_C} {w h : Int32} {n : Nat} : (px_H2 c0 c1 c2 c3 c4 c5 c6 c7 w h n)[43 + n]? = some (11, List.replicate 512 (Value.long 0)) := px_ati (show 43 + n = 38 + n + 5 by omega) (px_apq px_H1_len rfl)
theorem f_m6 {c0 c1 c2 c3 c4 c5 c6 c7 : px_C} {w h : Int32} {n : Nat} : (px_H2 c0 c1 c2 c3 c4 c5 c6 c7 w h n)[44 + n]? = some (12, List.replicate 36 (Value.int 0)) := px_ati (show 44 + n = 38 + n + 6 by omega) (px_apq px_H1_len rfl)
theorem f_m7 {c0 c1 c2 c3 c4 c5 c6 c7 : px_C} {w h : Int32} {n : Nat} : (px_H2 c0 c1 c2 c3 c4 c5 c6 c7 w h n)[45 + n]? = some (10, List.replicate 1332 (Value.int 0)) := px_ati (show 45 + n = 38 + n + 7 by omega) (px_apq px_H1_len rfl)
theorem f_m8 {c0 c1 c2 c3 c4 c5 c6 c7 : px_C} {w h : Int32} {n : Nat} : (px_H2 c0 c1 c2 c3 c4 c5 c6 c7 w h n)[46 + n]? = some (10, List.replicate 37 (Value.int 0)) := px_ati (show 46 + n = 38 + n + 8 by omega) (px_apq px_H1_len rfl)
theorem f_m9 {c0 c1 c2 c3 c4 c5 c6 c7 : px_C} {w h : Int32} {n : Nat} : (px_H2 c0 c1 c2 c3 c4 c5 c6 c7 w h n)[47 + n]? = some (10, List.replicate 36 (Value.int 0)) := px_ati (show 47 + n = 38 + n + 9 by omega) (px_apq px_H1_len rfl)
theorem f_m10 {c0 c1 c2 c3 c4 c5 c6 c7 : px_C} {w h : Int32} {n : Nat} : (px_H2 c0 c1 c2 c3 c4 c5 c6 c7 w h n)[48 + n]? = some (10, List.replicate 200 (Value.int 0)) := px_ati (show 48 + n = 38 + n + 10 by omega) (px_apq px_H1_len rfl)
theorem f_m11 {c0 c1 c2 c3 c4 c5 c6 c7 : px_C} {w h : Int32} {n : Nat} : (px_H2 c0 c1 c2 c3 c4 c5 c6 c7 w h n)[49 + n]? = some (10, List.replicate 200 (Value.int 0)) := px_ati (show 49 + n = 38 + n + 11 by omega) (px_apq px_H1_len rfl)
theorem f_m12 {c0 c1 c2 c3 c4 c5 c6 c7 : px_C} {w h : Int32} {n : Nat} : (px_H2 c0 c1 c2 c3 c4 c5 c6 c7 w h n)[50 + n]? = some (10, List.replicate 200 (Value.int 0)) := px_ati (show 50 + n = 38 + n + 12 by omega) (px_apq px_H1_len rfl)
theorem f_m13 {c0 c1 c2 c3 c4 c5 c6 c7 : px_C} {w h : Int32} {n : Nat} : (px_H2 c0 c1 c2 c3 c4 c5 c6 c7 w h n)[51 + n]? = some (12, List.replicate 37 (Value.int 0)) := px_ati (show 51 + n = 38 + n + 13 by omega) (px_apq px_H1_len rfl)
theorem f_m14 {c0 c1 c2 c3 c4 c5 c6 c7 : px_C} {w h : Int32} {n : Nat} : (px_H2 c0 c1 c2 c3 c4 c5 c6 c7 w h n)[52 + n]? = some (11, List.replicate 1 (Value.long 0)) := px_ati (show 52 + n = 38 + n + 14 by omega) (px_apq px_H1_len rfl)
theorem f_len {c0 c1 c2 c3 c4 c5 c6 c7 : px_C} {w h : Int32} {n : Nat} : (px_H2 c0 c1 c2 c3 c4 c5 c6 c7 w h n).length = 53 + n := by
  unfold px_H2
  rw [List.length_append, px_H1_len]
  show 38 + n + 15 = 53 + n
  omega
theorem px_sz_cons (c : px_C) (hp : px_H) : px_sz (c :: hp) = c.2.length + px_sz hp := by unfold px_sz; rw [List.map_cons, List.sum_cons]
theorem px_sz_nil : px_sz [] = 0 := rfl
theorem px_sz_rep (n t : Nat) (vs : List Value) : px_sz (List.replicate n (t, vs)) = n * vs.length := by unfold px_sz; simp
theorem f_szT {w h : Int32} {n : Nat} : px_sz [(4, [.int 0, .int w, .int h, .ref (39 + n), .int 0, .ref (40 + n), .ref (41 + n), .ref (42 + n), .int 0, .ref (43 + n), .ref (44 + n), .ref (45 + n), .ref (46 + n), .int 0, .ref (47 + n), .int 0, .ref (48 + n), .int 0, .ref (49 + n), .ref (50 + n), .ref (51 + n)]), (12, List.replicate 36 (Value.int 0)), (10, List.replicate 6 (Value.int 0)), (10, List.replicate 36 (Value.int 0)), (10, List.replicate 36 (Value.int 0)), (11, List.replicate 512 (Value.long 0)), (12, List.replicate 36 (Value.int 0)), (10, List.replicate 1332 (Value.int 0)), (10, List.replicate 37 (Value.int 0)), (10, List.replicate 36 (Value.int 0)), (10, List.replicate 200 (Value.int 0)), (10, List.replicate 200 (Value.int 0)), (10, List.replicate 200 (Value.int 0)), (12, List.replicate 37 (Value.int 0)), (11, List.replicate 1 (Value.long 0))] = 2726 := by
  simp only [px_sz_cons, px_sz_nil, List.length_cons, List.length_nil, List.length_replicate]
theorem f_sz1 {c0 c1 c2 c3 c4 c5 c6 c7 : px_C} {w h : Int32} {n : Nat} : px_sz (px_H1 c0 c1 c2 c3 c4 c5 c6 c7 w h n) = px_sz [c0, c1, c2, c3, c4, c5, c6, c7] + (1338 + (n * (n + 1) + 5 * n)) := by
  rw [px_H1]
  simp only [px_sz_cons, px_sz_app, px_sz_nil, px_sz_rep, List.length_cons, List.length_nil, List.length_replicate, List.length_map, List.length_range, Nat.add_zero]
  generalize n * (n + 1) = q
  omega
theorem f_sz {c0 c1 c2 c3 c4 c5 c6 c7 : px_C} {w h : Int32} {n : Nat} (hn36 : n ≤ 36) : px_sz (px_H2 c0 c1 c2 c3 c4 c5 c6 c7 w h n) ≤ px_sz [c0, c1, c2, c3, c4, c5, c6, c7] + 10000 := by
  have h1 : n * (n + 1) ≤ 36 * 37 := Nat.mul_le_mul hn36 (by omega)
  rw [px_H2, px_sz_app, f_szT, f_sz1]
  generalize px_sz [c0, c1, c2, c3, c4, c5, c6, c7] = s
  omega
