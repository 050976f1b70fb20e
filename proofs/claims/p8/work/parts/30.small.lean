def px_exc (hp : px_H) : px_H := hp ++ [(30, List.replicate 6 .null)]
theorem px_hdn {j pc : Nat} {E : String} (h : 11 < j) : px_hd j pc E = none := by
  unfold px_hd
  split
  · rw [if_neg (by omega)]
  · rw [if_neg (by omega)]
theorem px_hdA {j pc : Nat} (h : j = 5 ∨ j = 7 ∨ j = 8 ∨ j = 9 ∨ j = 10 ∨ j = 11) (hp : pc < 9) : px_hd j pc "java/lang/ArrayIndexOutOfBoundsException" = some 1 := by
  unfold px_hd
  rw [if_pos rfl, if_pos ⟨h, hp⟩]
theorem px_ri {d j pc : Nat} {lv : px_L} {hp : px_H} {v : Int32} {ty : FieldType} (hi : px_ins (px_tab j) pc = some .ireturn) (ht : px_rt j = some ty) (hn : narrow ty (.int v) = .int v) : px_Go d j (pc, lv, [.int v], hp) (.inl (some (.int v)), hp) :=
  px_e hi (by simp only [px_step, ht, hn, if_true]; rfl)
theorem c_num_1 {d : Nat} {hp : px_H} {b2 b3 b4 b5 b6 : Nat} {fc fd : Int32} {sh : Int64} {w h : Int32} {x y : Int32} (hc : hp[(8 : Nat)]? = some (3, [.int w, .int h, .ref b2, .ref b3, .ref b4, .ref b5, .ref b6, .int fc, .long sh, .int fd])) (h1 : x < 0) : px_Go d 53 (0, [(0, .ref 8), (1, .int x), (2, .int y)], [], hp) (.inr "java/lang/ArrayIndexOutOfBoundsException", (px_exc hp)) := by
  refine px_a 1 (f' := (1, [(0, .ref 8), (1, .int x), (2, .int y)], [.int x], hp)) rfl ?_
  refine px_b1 true 24 rfl rfl (decide_eq_true h1) ?_
  show px_Go _ _ (24, [(0, .ref 8), (1, .int x), (2, .int y)], [], hp) _
  exact px_e rfl rfl
theorem c_num_2 {d : Nat} {hp : px_H} {b2 b3 b4 b5 b6 : Nat} {fc fd : Int32} {sh : Int64} {w h : Int32} {x y : Int32} (hc : hp[(8 : Nat)]? = some (3, [.int w, .int h, .ref b2, .ref b3, .ref b4, .ref b5, .ref b6, .int fc, .long sh, .int fd])) (h1 : ¬ x < 0) (h2 : w ≤ x) : px_Go d 53 (0, [(0, .ref 8), (1, .int x), (2, .int y)], [], hp) (.inr "java/lang/ArrayIndexOutOfBoundsException", (px_exc hp)) := by
  refine px_a 1 (f' := (1, [(0, .ref 8), (1, .int x), (2, .int y)], [.int x], hp)) rfl ?_
  refine px_b1 false 24 rfl rfl (decide_eq_false h1) ?_
  show px_Go _ _ (4, [(0, .ref 8), (1, .int x), (2, .int y)], [], hp) _
  refine px_a 2 (f' := (6, [(0, .ref 8), (1, .int x), (2, .int y)], [.ref 8, .int x], hp)) rfl ?_
  refine px_gf 8 18 3 0 (.int w) rfl rfl hc rfl ?_
  show px_Go _ _ (9, [(0, .ref 8), (1, .int x), (2, .int y)], [.int w, .int x], hp) _
  refine px_b2 true 24 rfl rfl (decide_eq_true h2) ?_
  show px_Go _ _ (24, [(0, .ref 8), (1, .int x), (2, .int y)], [], hp) _
  exact px_e rfl rfl
theorem c_num_3 {d : Nat} {hp : px_H} {b2 b3 b4 b5 b6 : Nat} {fc fd : Int32} {sh : Int64} {w h : Int32} {x y : Int32} (hc : hp[(8 : Nat)]? = some (3, [.int w, .int h, .ref b2, .ref b3, .ref b4, .ref b5, .ref b6, .int fc, .long sh, .int fd])) (h1 : ¬ x < 0) (h2 : ¬ w ≤ x) (h3 : y < 0) : px_Go d 53 (0, [(0, .ref 8), (1, .int x), (2, .int y)], [], hp) (.inr "java/lang/ArrayIndexOutOfBoundsException", (px_exc hp)) := by
  refine px_a 1 (f' := (1, [(0, .ref 8), (1, .int x), (2, .int y)], [.int x], hp)) rfl ?_
  refine px_b1 false 24 rfl rfl (decide_eq_false h1) ?_
  show px_Go _ _ (4, [(0, .ref 8), (1, .int x), (2, .int y)], [], hp) _
  refine px_a 2 (f' := (6, [(0, .ref 8), (1, .int x), (2, .int y)], [.ref 8, .int x], hp)) rfl ?_
  refine px_gf 8 18 3 0 (.int w) rfl rfl hc rfl ?_
  show px_Go _ _ (9, [(0, .ref 8), (1, .int x), (2, .int y)], [.int w, .int x], hp) _
  refine px_b2 false 24 rfl rfl (decide_eq_false h2) ?_
  show px_Go _ _ (12, [(0, .ref 8), (1, .int x), (2, .int y)], [], hp) _
  refine px_a 1 (f' := (13, [(0, .ref 8), (1, .int x), (2, .int y)], [.int y], hp)) rfl ?_
  refine px_b1 true 24 rfl rfl (decide_eq_true h3) ?_
  show px_Go _ _ (24, [(0, .ref 8), (1, .int x), (2, .int y)], [], hp) _
  exact px_e rfl rfl
theorem c_num_4 {d : Nat} {hp : px_H} {b2 b3 b4 b5 b6 : Nat} {fc fd : Int32} {sh : Int64} {w h : Int32} {x y : Int32} (hc : hp[(8 : Nat)]? = some (3, [.int w, .int h, .ref b2, .ref b3, .ref b4, .ref b5, .ref b6, .int fc, .long sh, .int fd])) (h1 : ¬ x < 0) (h2 : ¬ w ≤ x) (h3 : ¬ y < 0) (h4 : h ≤ y) : px_Go d 53 (0, [(0, .ref 8), (1, .int x), (2, .int y)], [], hp) (.inr "java/lang/ArrayIndexOutOfBoundsException", (px_exc hp)) := by
  refine px_a 1 (f' := (1, [(0, .ref 8), (1, .int x), (2, .int y)], [.int x], hp)) rfl ?_
  refine px_b1 false 24 rfl rfl (decide_eq_false h1) ?_
  show px_Go _ _ (4, [(0, .ref 8), (1, .int x), (2, .int y)], [], hp) _
  refine px_a 2 (f' := (6, [(0, .ref 8), (1, .int x), (2, .int y)], [.ref 8, .int x], hp)) rfl ?_
  refine px_gf 8 18 3 0 (.int w) rfl rfl hc rfl ?_
  show px_Go _ _ (9, [(0, .ref 8), (1, .int x), (2, .int y)], [.int w, .int x], hp) _
  refine px_b2 false 24 rfl rfl (decide_eq_false h2) ?_
  show px_Go _ _ (12, [(0, .ref 8), (1, .int x), (2, .int y)], [], hp) _
  refine px_a 1 (f' := (13, [(0, .ref 8), (1, .int x), (2, .int y)], [.int y], hp)) rfl ?_
  refine px_b1 false 24 rfl rfl (decide_eq_false h3) ?_
  show px_Go _ _ (16, [(0, .ref 8), (1, .int x), (2, .int y)], [], hp) _
  refine px_a 2 (f' := (18, [(0, .ref 8), (1, .int x), (2, .int y)], [.ref 8, .int y], hp)) rfl ?_
  refine px_gf 8 22 3 1 (.int h) rfl rfl hc rfl ?_
  show px_Go _ _ (21, [(0, .ref 8), (1, .int x), (2, .int y)], [.int h, .int y], hp) _
  refine px_b2 false 34 rfl rfl (decide_eq_false (Int32.not_lt.mpr h4)) ?_
  show px_Go _ _ (24, [(0, .ref 8), (1, .int x), (2, .int y)], [], hp) _
  exact px_e rfl rfl
theorem c_num_5 {d : Nat} {hp : px_H} {b2 b3 b4 b5 b6 : Nat} {fc fd : Int32} {sh : Int64} {w h : Int32} {x y : Int32} (hc : hp[(8 : Nat)]? = some (3, [.int w, .int h, .ref b2, .ref b3, .ref b4, .ref b5, .ref b6, .int fc, .long sh, .int fd])) (h1 : ¬ x < 0) (h2 : ¬ w ≤ x) (h3 : ¬ y < 0) (h4 : ¬ h ≤ y) : px_Go d 53 (0, [(0, .ref 8), (1, .int x), (2, .int y)], [], hp) (.inl (some (.int (w * y + x))), hp) := by
  refine px_a 1 (f' := (1, [(0, .ref 8), (1, .int x), (2, .int y)], [.int x], hp)) rfl ?_
  refine px_b1 false 24 rfl rfl (decide_eq_false h1) ?_
  show px_Go _ _ (4, [(0, .ref 8), (1, .int x), (2, .int y)], [], hp) _
  refine px_a 2 (f' := (6, [(0, .ref 8), (1, .int x), (2, .int y)], [.ref 8, .int x], hp)) rfl ?_
  refine px_gf 8 18 3 0 (.int w) rfl rfl hc rfl ?_
  show px_Go _ _ (9, [(0, .ref 8), (1, .int x), (2, .int y)], [.int w, .int x], hp) _
  refine px_b2 false 24 rfl rfl (decide_eq_false h2) ?_
  show px_Go _ _ (12, [(0, .ref 8), (1, .int x), (2, .int y)], [], hp) _
  refine px_a 1 (f' := (13, [(0, .ref 8), (1, .int x), (2, .int y)], [.int y], hp)) rfl ?_
  refine px_b1 false 24 rfl rfl (decide_eq_false h3) ?_
  show px_Go _ _ (16, [(0, .ref 8), (1, .int x), (2, .int y)], [], hp) _
  refine px_a 2 (f' := (18, [(0, .ref 8), (1, .int x), (2, .int y)], [.ref 8, .int y], hp)) rfl ?_
  refine px_gf 8 22 3 1 (.int h) rfl rfl hc rfl ?_
  show px_Go _ _ (21, [(0, .ref 8), (1, .int x), (2, .int y)], [.int h, .int y], hp) _
  refine px_b2 true 34 rfl rfl (decide_eq_true (Int32.not_le.mp h4)) ?_
  show px_Go _ _ (34, [(0, .ref 8), (1, .int x), (2, .int y)], [], hp) _
  refine px_a 1 (f' := (35, [(0, .ref 8), (1, .int x), (2, .int y)], [.ref 8], hp)) rfl ?_
  refine px_gf 8 18 3 0 (.int w) rfl rfl hc rfl ?_
  show px_Go _ _ (38, [(0, .ref 8), (1, .int x), (2, .int y)], [.int w], hp) _
  refine px_a 4 (f' := (42, [(0, .ref 8), (1, .int x), (2, .int y)], [.int ((w * y) + x)], hp)) rfl ?_
  exact px_ri rfl rfl rfl
theorem c_num_o {d : Nat} {hp : px_H} {b2 b3 b4 b5 b6 : Nat} {fc fd : Int32} {sh : Int64} {w h : Int32} {x y : Int32} (hc : hp[(8 : Nat)]? = some (3, [.int w, .int h, .ref b2, .ref b3, .ref b4, .ref b5, .ref b6, .int fc, .long sh, .int fd])) (ho : (x < 0 ∨ w ≤ x ∨ y < 0 ∨ h ≤ y)) : px_Go d 53 (0, [(0, .ref 8), (1, .int x), (2, .int y)], [], hp) (.inr "java/lang/ArrayIndexOutOfBoundsException", (px_exc hp)) := by
  by_cases h1 : x < 0
  · exact c_num_1 hc h1
  · by_cases h2 : w ≤ x
    · exact c_num_2 hc h1 h2
    · by_cases h3 : y < 0
      · exact c_num_3 hc h1 h2 h3
      · by_cases h4 : h ≤ y
        · exact c_num_4 hc h1 h2 h3 h4
        · exact absurd ho (by rintro (q | q | q | q) <;> contradiction)
theorem c_num_i {d : Nat} {hp : px_H} {b2 b3 b4 b5 b6 : Nat} {fc fd : Int32} {sh : Int64} {w h : Int32} {x y : Int32} (hc : hp[(8 : Nat)]? = some (3, [.int w, .int h, .ref b2, .ref b3, .ref b4, .ref b5, .ref b6, .int fc, .long sh, .int fd])) (ho : ¬ (x < 0 ∨ w ≤ x ∨ y < 0 ∨ h ≤ y)) : px_Go d 53 (0, [(0, .ref 8), (1, .int x), (2, .int y)], [], hp) (.inl (some (.int (w * y + x))), hp) := by
  exact c_num_5 hc (fun q => ho (Or.inl q)) (fun q => ho (Or.inr (Or.inl q))) (fun q => ho (Or.inr (Or.inr (Or.inl q)))) (fun q => ho (Or.inr (Or.inr (Or.inr q))))
