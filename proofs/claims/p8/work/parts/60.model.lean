theorem p_cells {d : Nat} {hp : px_H} {m a0 a1 a2 a3 a4 a5 a6 a7 a8 a9 a10 a11 a12 : Nat} {th pn pl fo le ru : Int32} {w h : Int32} (hm : hp[m]? = some (4, [.int th, .int w, .int h, .ref a0, .int pn, .ref a1, .ref a2, .ref a3, .int pl, .ref a4, .ref a5, .ref a6, .ref a7, .int fo, .ref a8, .int le, .ref a9, .int ru, .ref a10, .ref a11, .ref a12])) : px_Go d 72 (0, [(0, .ref m)], [], hp) (.inl (some (.int (w * h))), hp) := by
  refine px_a 1 (f' := (1, [(0, .ref m)], [.ref m], hp)) rfl ?_
  refine px_gf m 51 4 1 (.int w) rfl rfl hm rfl ?_
  show px_Go _ _ (4, [(0, .ref m)], [.int w], hp) _
  refine px_a 1 (f' := (5, [(0, .ref m)], [.ref m, .int w], hp)) rfl ?_
  refine px_gf m 55 4 2 (.int h) rfl rfl hm rfl ?_
  show px_Go _ _ (8, [(0, .ref m)], [.int h, .int w], hp) _
  refine px_a 1 (f' := (9, [(0, .ref m)], [.int (w * h)], hp)) rfl ?_
  exact px_ri rfl rfl rfl
theorem p_isCell_1 {d : Nat} {hp : px_H} {m a0 a1 a2 a3 a4 a5 a6 a7 a8 a9 a10 a11 a12 : Nat} {th pn pl fo le ru : Int32} {w h : Int32} {x y : Int32} (hm : hp[m]? = some (4, [.int th, .int w, .int h, .ref a0, .int pn, .ref a1, .ref a2, .ref a3, .int pl, .ref a4, .ref a5, .ref a6, .ref a7, .int fo, .ref a8, .int le, .ref a9, .int ru, .ref a10, .ref a11, .ref a12])) (h1 : x < 0) : px_Go d 78 (0, [(0, .ref m), (1, .int x), (2, .int y)], [], hp) (.inl (some (.int 0)), hp) := by
  refine px_a 1 (f' := (1, [(0, .ref m), (1, .int x), (2, .int y)], [.int x], hp)) rfl ?_
  refine px_b1 true 28 rfl rfl (decide_eq_true h1) ?_
  show px_Go _ _ (28, [(0, .ref m), (1, .int x), (2, .int y)], [], hp) _
  refine px_a 1 (f' := (29, [(0, .ref m), (1, .int x), (2, .int y)], [.int 0], hp)) rfl ?_
  exact px_ri rfl rfl rfl
theorem p_isCell_2 {d : Nat} {hp : px_H} {m a0 a1 a2 a3 a4 a5 a6 a7 a8 a9 a10 a11 a12 : Nat} {th pn pl fo le ru : Int32} {w h : Int32} {x y : Int32} (hm : hp[m]? = some (4, [.int th, .int w, .int h, .ref a0, .int pn, .ref a1, .ref a2, .ref a3, .int pl, .ref a4, .ref a5, .ref a6, .ref a7, .int fo, .ref a8, .int le, .ref a9, .int ru, .ref a10, .ref a11, .ref a12])) (h1 : ¬ x < 0) (h2 : w ≤ x) : px_Go d 78 (0, [(0, .ref m), (1, .int x), (2, .int y)], [], hp) (.inl (some (.int 0)), hp) := by
  refine px_a 1 (f' := (1, [(0, .ref m), (1, .int x), (2, .int y)], [.int x], hp)) rfl ?_
  refine px_b1 false 28 rfl rfl (decide_eq_false h1) ?_
  show px_Go _ _ (4, [(0, .ref m), (1, .int x), (2, .int y)], [], hp) _
  refine px_a 2 (f' := (6, [(0, .ref m), (1, .int x), (2, .int y)], [.ref m, .int x], hp)) rfl ?_
  refine px_gf m 51 4 1 (.int w) rfl rfl hm rfl ?_
  show px_Go _ _ (9, [(0, .ref m), (1, .int x), (2, .int y)], [.int w, .int x], hp) _
  refine px_b2 true 28 rfl rfl (decide_eq_true h2) ?_
  show px_Go _ _ (28, [(0, .ref m), (1, .int x), (2, .int y)], [], hp) _
  refine px_a 1 (f' := (29, [(0, .ref m), (1, .int x), (2, .int y)], [.int 0], hp)) rfl ?_
  exact px_ri rfl rfl rfl
theorem p_isCell_3 {d : Nat} {hp : px_H} {m a0 a1 a2 a3 a4 a5 a6 a7 a8 a9 a10 a11 a12 : Nat} {th pn pl fo le ru : Int32} {w h : Int32} {x y : Int32} (hm : hp[m]? = some (4, [.int th, .int w, .int h, .ref a0, .int pn, .ref a1, .ref a2, .ref a3, .int pl, .ref a4, .ref a5, .ref a6, .ref a7, .int fo, .ref a8, .int le, .ref a9, .int ru, .ref a10, .ref a11, .ref a12])) (h1 : ¬ x < 0) (h2 : ¬ w ≤ x) (h3 : y < 0) : px_Go d 78 (0, [(0, .ref m), (1, .int x), (2, .int y)], [], hp) (.inl (some (.int 0)), hp) := by
  refine px_a 1 (f' := (1, [(0, .ref m), (1, .int x), (2, .int y)], [.int x], hp)) rfl ?_
  refine px_b1 false 28 rfl rfl (decide_eq_false h1) ?_
  show px_Go _ _ (4, [(0, .ref m), (1, .int x), (2, .int y)], [], hp) _
  refine px_a 2 (f' := (6, [(0, .ref m), (1, .int x), (2, .int y)], [.ref m, .int x], hp)) rfl ?_
  refine px_gf m 51 4 1 (.int w) rfl rfl hm rfl ?_
  show px_Go _ _ (9, [(0, .ref m), (1, .int x), (2, .int y)], [.int w, .int x], hp) _
  refine px_b2 false 28 rfl rfl (decide_eq_false h2) ?_
  show px_Go _ _ (12, [(0, .ref m), (1, .int x), (2, .int y)], [], hp) _
  refine px_a 1 (f' := (13, [(0, .ref m), (1, .int x), (2, .int y)], [.int y], hp)) rfl ?_
  refine px_b1 true 28 rfl rfl (decide_eq_true h3) ?_
  show px_Go _ _ (28, [(0, .ref m), (1, .int x), (2, .int y)], [], hp) _
  refine px_a 1 (f' := (29, [(0, .ref m), (1, .int x), (2, .int y)], [.int 0], hp)) rfl ?_
  exact px_ri rfl rfl rfl
theorem p_isCell_4 {d : Nat} {hp : px_H} {m a0 a1 a2 a3 a4 a5 a6 a7 a8 a9 a10 a11 a12 : Nat} {th pn pl fo le ru : Int32} {w h : Int32} {x y : Int32} (hm : hp[m]? = some (4, [.int th, .int w, .int h, .ref a0, .int pn, .ref a1, .ref a2, .ref a3, .int pl, .ref a4, .ref a5, .ref a6, .ref a7, .int fo, .ref a8, .int le, .ref a9, .int ru, .ref a10, .ref a11, .ref a12])) (h1 : ¬ x < 0) (h2 : ¬ w ≤ x) (h3 : ¬ y < 0) (h4 : h ≤ y) : px_Go d 78 (0, [(0, .ref m), (1, .int x), (2, .int y)], [], hp) (.inl (some (.int 0)), hp) := by
  refine px_a 1 (f' := (1, [(0, .ref m), (1, .int x), (2, .int y)], [.int x], hp)) rfl ?_
  refine px_b1 false 28 rfl rfl (decide_eq_false h1) ?_
  show px_Go _ _ (4, [(0, .ref m), (1, .int x), (2, .int y)], [], hp) _
  refine px_a 2 (f' := (6, [(0, .ref m), (1, .int x), (2, .int y)], [.ref m, .int x], hp)) rfl ?_
  refine px_gf m 51 4 1 (.int w) rfl rfl hm rfl ?_
  show px_Go _ _ (9, [(0, .ref m), (1, .int x), (2, .int y)], [.int w, .int x], hp) _
  refine px_b2 false 28 rfl rfl (decide_eq_false h2) ?_
  show px_Go _ _ (12, [(0, .ref m), (1, .int x), (2, .int y)], [], hp) _
  refine px_a 1 (f' := (13, [(0, .ref m), (1, .int x), (2, .int y)], [.int y], hp)) rfl ?_
  refine px_b1 false 28 rfl rfl (decide_eq_false h3) ?_
  show px_Go _ _ (16, [(0, .ref m), (1, .int x), (2, .int y)], [], hp) _
  refine px_a 2 (f' := (18, [(0, .ref m), (1, .int x), (2, .int y)], [.ref m, .int y], hp)) rfl ?_
  refine px_gf m 55 4 2 (.int h) rfl rfl hm rfl ?_
  show px_Go _ _ (21, [(0, .ref m), (1, .int x), (2, .int y)], [.int h, .int y], hp) _
  refine px_b2 true 28 rfl rfl (decide_eq_true h4) ?_
  show px_Go _ _ (28, [(0, .ref m), (1, .int x), (2, .int y)], [], hp) _
  refine px_a 1 (f' := (29, [(0, .ref m), (1, .int x), (2, .int y)], [.int 0], hp)) rfl ?_
  exact px_ri rfl rfl rfl
theorem p_isCell_5 {d : Nat} {hp : px_H} {m a0 a1 a2 a3 a4 a5 a6 a7 a8 a9 a10 a11 a12 : Nat} {th pn pl fo le ru : Int32} {w h : Int32} {x y : Int32} (hm : hp[m]? = some (4, [.int th, .int w, .int h, .ref a0, .int pn, .ref a1, .ref a2, .ref a3, .int pl, .ref a4, .ref a5, .ref a6, .ref a7, .int fo, .ref a8, .int le, .ref a9, .int ru, .ref a10, .ref a11, .ref a12])) (h1 : ¬ x < 0) (h2 : ¬ w ≤ x) (h3 : ¬ y < 0) (h4 : ¬ h ≤ y) : px_Go d 78 (0, [(0, .ref m), (1, .int x), (2, .int y)], [], hp) (.inl (some (.int 1)), hp) := by
  refine px_a 1 (f' := (1, [(0, .ref m), (1, .int x), (2, .int y)], [.int x], hp)) rfl ?_
  refine px_b1 false 28 rfl rfl (decide_eq_false h1) ?_
  show px_Go _ _ (4, [(0, .ref m), (1, .int x), (2, .int y)], [], hp) _
  refine px_a 2 (f' := (6, [(0, .ref m), (1, .int x), (2, .int y)], [.ref m, .int x], hp)) rfl ?_
  refine px_gf m 51 4 1 (.int w) rfl rfl hm rfl ?_
  show px_Go _ _ (9, [(0, .ref m), (1, .int x), (2, .int y)], [.int w, .int x], hp) _
  refine px_b2 false 28 rfl rfl (decide_eq_false h2) ?_
  show px_Go _ _ (12, [(0, .ref m), (1, .int x), (2, .int y)], [], hp) _
  refine px_a 1 (f' := (13, [(0, .ref m), (1, .int x), (2, .int y)], [.int y], hp)) rfl ?_
  refine px_b1 false 28 rfl rfl (decide_eq_false h3) ?_
  show px_Go _ _ (16, [(0, .ref m), (1, .int x), (2, .int y)], [], hp) _
  refine px_a 2 (f' := (18, [(0, .ref m), (1, .int x), (2, .int y)], [.ref m, .int y], hp)) rfl ?_
  refine px_gf m 55 4 2 (.int h) rfl rfl hm rfl ?_
  show px_Go _ _ (21, [(0, .ref m), (1, .int x), (2, .int y)], [.int h, .int y], hp) _
  refine px_b2 false 28 rfl rfl (decide_eq_false h4) ?_
  show px_Go _ _ (24, [(0, .ref m), (1, .int x), (2, .int y)], [], hp) _
  refine px_a 2 (f' := (29, [(0, .ref m), (1, .int x), (2, .int y)], [.int 1], hp)) rfl ?_
  exact px_ri rfl rfl rfl
theorem p_isCell_o {d : Nat} {hp : px_H} {m a0 a1 a2 a3 a4 a5 a6 a7 a8 a9 a10 a11 a12 : Nat} {th pn pl fo le ru : Int32} {w h : Int32} {x y : Int32} (hm : hp[m]? = some (4, [.int th, .int w, .int h, .ref a0, .int pn, .ref a1, .ref a2, .ref a3, .int pl, .ref a4, .ref a5, .ref a6, .ref a7, .int fo, .ref a8, .int le, .ref a9, .int ru, .ref a10, .ref a11, .ref a12])) (ho : (x < 0 ∨ w ≤ x ∨ y < 0 ∨ h ≤ y)) : px_Go d 78 (0, [(0, .ref m), (1, .int x), (2, .int y)], [], hp) (.inl (some (.int 0)), hp) := by
  by_cases h1 : x < 0
  · exact p_isCell_1 hm h1
  · by_cases h2 : w ≤ x
    · exact p_isCell_2 hm h1 h2
    · by_cases h3 : y < 0
      · exact p_isCell_3 hm h1 h2 h3
      · by_cases h4 : h ≤ y
        · exact p_isCell_4 hm h1 h2 h3 h4
        · exact absurd ho (by rintro (q | q | q | q) <;> contradiction)
theorem p_isCell_i {d : Nat} {hp : px_H} {m a0 a1 a2 a3 a4 a5 a6 a7 a8 a9 a10 a11 a12 : Nat} {th pn pl fo le ru : Int32} {w h : Int32} {x y : Int32} (hm : hp[m]? = some (4, [.int th, .int w, .int h, .ref a0, .int pn, .ref a1, .ref a2, .ref a3, .int pl, .ref a4, .ref a5, .ref a6, .ref a7, .int fo, .ref a8, .int le, .ref a9, .int ru, .ref a10, .ref a11, .ref a12])) (ho : ¬ (x < 0 ∨ w ≤ x ∨ y < 0 ∨ h ≤ y)) : px_Go d 78 (0, [(0, .ref m), (1, .int x), (2, .int y)], [], hp) (.inl (some (.int 1)), hp) := by
  exact p_isCell_5 hm (fun q => ho (Or.inl q)) (fun q => ho (Or.inr (Or.inl q))) (fun q => ho (Or.inr (Or.inr (Or.inl q)))) (fun q => ho (Or.inr (Or.inr (Or.inr q))))
theorem p_throwsIf_0 {d : Nat} {hp : px_H} {m a0 a1 a2 a3 a4 a5 a6 a7 a8 a9 a10 a11 a12 : Nat} {th pn pl fo le ru : Int32} {w h : Int32} {k : Int32} (hm : hp[m]? = some (4, [.int th, .int w, .int h, .ref a0, .int pn, .ref a1, .ref a2, .ref a3, .int pl, .ref a4, .ref a5, .ref a6, .ref a7, .int fo, .ref a8, .int le, .ref a9, .int ru, .ref a10, .ref a11, .ref a12])) (gm : 8 ≤ m) : px_Go d 99 (0, [(0, .ref m), (1, .int k), (2, .int 0)], [], hp) (.inl (some (.int 0)), hp.set m (4, [.int 0, .int w, .int h, .ref a0, .int pn, .ref a1, .ref a2, .ref a3, .int pl, .ref a4, .ref a5, .ref a6, .ref a7, .int fo, .ref a8, .int le, .ref a9, .int ru, .ref a10, .ref a11, .ref a12])) := by
  refine px_a 4 (f' := (10, [(0, .ref m), (1, .int k), (2, .int 0)], [.int 0, .ref m], hp)) rfl ?_
  refine px_pf m 58 4 0 rfl rfl hm (by omega) (by simp) rfl rfl (by decide) ?_
  have hf1_m : (hp.set m (4, [.int 0, .int w, .int h, .ref a0, .int pn, .ref a1, .ref a2, .ref a3, .int pl, .ref a4, .ref a5, .ref a6, .ref a7, .int fo, .ref a8, .int le, .ref a9, .int ru, .ref a10, .ref a11, .ref a12]))[m]? = some (4, [.int 0, .int w, .int h, .ref a0, .int pn, .ref a1, .ref a2, .ref a3, .int pl, .ref a4, .ref a5, .ref a6, .ref a7, .int fo, .ref a8, .int le, .ref a9, .int ru, .ref a10, .ref a11, .ref a12]) := px_self hm
  show px_Go _ _ (13, [(0, .ref m), (1, .int k), (2, .int 0)], [], (hp.set m (4, [.int 0, .int w, .int h, .ref a0, .int pn, .ref a1, .ref a2, .ref a3, .int pl, .ref a4, .ref a5, .ref a6, .ref a7, .int fo, .ref a8, .int le, .ref a9, .int ru, .ref a10, .ref a11, .ref a12]))) _
  refine px_a 1 (f' := (14, [(0, .ref m), (1, .int k), (2, .int 0)], [.int 0], (hp.set m (4, [.int 0, .int w, .int h, .ref a0, .int pn, .ref a1, .ref a2, .ref a3, .int pl, .ref a4, .ref a5, .ref a6, .ref a7, .int fo, .ref a8, .int le, .ref a9, .int ru, .ref a10, .ref a11, .ref a12])))) rfl ?_
  exact px_ri rfl rfl rfl
theorem p_throwsIf_1 {d : Nat} {hp : px_H} {m a0 a1 a2 a3 a4 a5 a6 a7 a8 a9 a10 a11 a12 : Nat} {th pn pl fo le ru : Int32} {w h : Int32} {k : Int32} (hm : hp[m]? = some (4, [.int th, .int w, .int h, .ref a0, .int pn, .ref a1, .ref a2, .ref a3, .int pl, .ref a4, .ref a5, .ref a6, .ref a7, .int fo, .ref a8, .int le, .ref a9, .int ru, .ref a10, .ref a11, .ref a12])) (gm : 8 ≤ m) : px_Go d 99 (0, [(0, .ref m), (1, .int k), (2, .int 1)], [], hp) (.inl (some (.int 1)), hp.set m (4, [.int k, .int w, .int h, .ref a0, .int pn, .ref a1, .ref a2, .ref a3, .int pl, .ref a4, .ref a5, .ref a6, .ref a7, .int fo, .ref a8, .int le, .ref a9, .int ru, .ref a10, .ref a11, .ref a12])) := by
  refine px_a 5 (f' := (10, [(0, .ref m), (1, .int k), (2, .int 1)], [.int k, .ref m], hp)) rfl ?_
  refine px_pf m 58 4 0 rfl rfl hm (by omega) (by simp) rfl rfl (by decide) ?_
  have hf1_m : (hp.set m (4, [.int k, .int w, .int h, .ref a0, .int pn, .ref a1, .ref a2, .ref a3, .int pl, .ref a4, .ref a5, .ref a6, .ref a7, .int fo, .ref a8, .int le, .ref a9, .int ru, .ref a10, .ref a11, .ref a12]))[m]? = some (4, [.int k, .int w, .int h, .ref a0, .int pn, .ref a1, .ref a2, .ref a3, .int pl, .ref a4, .ref a5, .ref a6, .ref a7, .int fo, .ref a8, .int le, .ref a9, .int ru, .ref a10, .ref a11, .ref a12]) := px_self hm
  show px_Go _ _ (13, [(0, .ref m), (1, .int k), (2, .int 1)], [], (hp.set m (4, [.int k, .int w, .int h, .ref a0, .int pn, .ref a1, .ref a2, .ref a3, .int pl, .ref a4, .ref a5, .ref a6, .ref a7, .int fo, .ref a8, .int le, .ref a9, .int ru, .ref a10, .ref a11, .ref a12]))) _
  refine px_a 1 (f' := (14, [(0, .ref m), (1, .int k), (2, .int 1)], [.int 1], (hp.set m (4, [.int k, .int w, .int h, .ref a0, .int pn, .ref a1, .ref a2, .ref a3, .int pl, .ref a4, .ref a5, .ref a6, .ref a7, .int fo, .ref a8, .int le, .ref a9, .int ru, .ref a10, .ref a11, .ref a12])))) rfl ?_
  exact px_ri rfl rfl rfl
theorem p_isPiece_1 {d : Nat} {hp : px_H} {m a0 a1 a2 a3 a4 a5 a6 a7 a8 a9 a10 a11 a12 : Nat} {th pn pl fo le ru : Int32} {w h : Int32} {q : Int32} (hm : hp[m]? = some (4, [.int th, .int w, .int h, .ref a0, .int pn, .ref a1, .ref a2, .ref a3, .int pl, .ref a4, .ref a5, .ref a6, .ref a7, .int fo, .ref a8, .int le, .ref a9, .int ru, .ref a10, .ref a11, .ref a12])) (h1 : q < 0) : px_Go d 79 (0, [(0, .ref m), (1, .int q)], [], hp) (.inl (some (.int 0)), hp) := by
  refine px_a 1 (f' := (1, [(0, .ref m), (1, .int q)], [.int q], hp)) rfl ?_
  refine px_b1 true 16 rfl rfl (decide_eq_true h1) ?_
  show px_Go _ _ (16, [(0, .ref m), (1, .int q)], [], hp) _
  refine px_a 1 (f' := (17, [(0, .ref m), (1, .int q)], [.int 0], hp)) rfl ?_
  exact px_ri rfl rfl rfl
theorem p_isPiece_2 {d : Nat} {hp : px_H} {m a0 a1 a2 a3 a4 a5 a6 a7 a8 a9 a10 a11 a12 : Nat} {th pn pl fo le ru : Int32} {w h : Int32} {q : Int32} (hm : hp[m]? = some (4, [.int th, .int w, .int h, .ref a0, .int pn, .ref a1, .ref a2, .ref a3, .int pl, .ref a4, .ref a5, .ref a6, .ref a7, .int fo, .ref a8, .int le, .ref a9, .int ru, .ref a10, .ref a11, .ref a12])) (h1 : ¬ q < 0) (h2 : pn ≤ q) : px_Go d 79 (0, [(0, .ref m), (1, .int q)], [], hp) (.inl (some (.int 0)), hp) := by
  refine px_a 1 (f' := (1, [(0, .ref m), (1, .int q)], [.int q], hp)) rfl ?_
  refine px_b1 false 16 rfl rfl (decide_eq_false h1) ?_
  show px_Go _ _ (4, [(0, .ref m), (1, .int q)], [], hp) _
  refine px_a 2 (f' := (6, [(0, .ref m), (1, .int q)], [.ref m, .int q], hp)) rfl ?_
  refine px_gf m 61 4 4 (.int pn) rfl rfl hm rfl ?_
  show px_Go _ _ (9, [(0, .ref m), (1, .int q)], [.int pn, .int q], hp) _
  refine px_b2 true 16 rfl rfl (decide_eq_true h2) ?_
  show px_Go _ _ (16, [(0, .ref m), (1, .int q)], [], hp) _
  refine px_a 1 (f' := (17, [(0, .ref m), (1, .int q)], [.int 0], hp)) rfl ?_
  exact px_ri rfl rfl rfl
theorem p_isPiece_3 {d : Nat} {hp : px_H} {m a0 a1 a2 a3 a4 a5 a6 a7 a8 a9 a10 a11 a12 : Nat} {th pn pl fo le ru : Int32} {w h : Int32} {q : Int32} (hm : hp[m]? = some (4, [.int th, .int w, .int h, .ref a0, .int pn, .ref a1, .ref a2, .ref a3, .int pl, .ref a4, .ref a5, .ref a6, .ref a7, .int fo, .ref a8, .int le, .ref a9, .int ru, .ref a10, .ref a11, .ref a12])) (h1 : ¬ q < 0) (h2 : ¬ pn ≤ q) : px_Go d 79 (0, [(0, .ref m), (1, .int q)], [], hp) (.inl (some (.int 1)), hp) := by
  refine px_a 1 (f' := (1, [(0, .ref m), (1, .int q)], [.int q], hp)) rfl ?_
  refine px_b1 false 16 rfl rfl (decide_eq_false h1) ?_
  show px_Go _ _ (4, [(0, .ref m), (1, .int q)], [], hp) _
  refine px_a 2 (f' := (6, [(0, .ref m), (1, .int q)], [.ref m, .int q], hp)) rfl ?_
  refine px_gf m 61 4 4 (.int pn) rfl rfl hm rfl ?_
  show px_Go _ _ (9, [(0, .ref m), (1, .int q)], [.int pn, .int q], hp) _
  refine px_b2 false 16 rfl rfl (decide_eq_false h2) ?_
  show px_Go _ _ (12, [(0, .ref m), (1, .int q)], [], hp) _
  refine px_a 2 (f' := (17, [(0, .ref m), (1, .int q)], [.int 1], hp)) rfl ?_
  exact px_ri rfl rfl rfl
theorem p_isPiece_o {d : Nat} {hp : px_H} {m a0 a1 a2 a3 a4 a5 a6 a7 a8 a9 a10 a11 a12 : Nat} {th pn pl fo le ru : Int32} {w h : Int32} {q : Int32} (hm : hp[m]? = some (4, [.int th, .int w, .int h, .ref a0, .int pn, .ref a1, .ref a2, .ref a3, .int pl, .ref a4, .ref a5, .ref a6, .ref a7, .int fo, .ref a8, .int le, .ref a9, .int ru, .ref a10, .ref a11, .ref a12])) (ho : q < 0 ∨ pn ≤ q) : px_Go d 79 (0, [(0, .ref m), (1, .int q)], [], hp) (.inl (some (.int 0)), hp) := by
  by_cases h1 : q < 0
  · exact p_isPiece_1 hm h1
  · exact p_isPiece_2 hm h1 (ho.resolve_left h1)
theorem pa_rgm {n a i : Nat} (h : pa_rg n a = 18 + i) (hi : i ≤ 20) : a = 32 + n + i := by
  unfold pa_rg at h
  repeat (split at h <;> try omega)
theorem pa_rgm' {n i : Nat} (hi : i ≤ 20) (h1 : i ≠ 1) : pa_rg n (32 + n + i) = 18 + i := by
  unfold pa_rg
  repeat (split <;> try omega)
/-- the model's object, field by field -/
theorem pa_mod {n : Nat} {hp : px_H} (H : pa_Hi n hp) : ∃ (th w h pn pl fo le ru : Int32), hp[38 + n]? = some (4, [.int th, .int w, .int h, .ref (39 + n), .int pn, .ref (40 + n), .ref (41 + n), .ref (42 + n), .int pl, .ref (43 + n), .ref (44 + n), .ref (45 + n), .ref (46 + n), .int fo, .ref (47 + n), .int le, .ref (48 + n), .int ru, .ref (49 + n), .ref (50 + n), .ref (51 + n)]) ∧ 0 ≤ th.toInt ∧ th.toInt ≤ 2 ∧ 1 ≤ w.toInt ∧ w.toInt ≤ 6 ∧ 1 ≤ h.toInt ∧ h.toInt ≤ 6 ∧ 0 ≤ pn.toInt ∧ pn.toInt ≤ 6 ∧ 0 ≤ pl.toInt ∧ pl.toInt ≤ 512 ∧ 0 ≤ fo.toInt ∧ fo.toInt ≤ 1 ∧ 0 ≤ le.toInt ∧ le.toInt ≤ 200 ∧ 0 ≤ ru.toInt ∧ ru.toInt ≤ 200 := by
  have e24 : pa_rg n (38 + n) = 24 := by have := pa_rgm' (n := n) (i := 6) (by decide) (by decide); rw [show 38 + n = 32 + n + 6 by omega]; exact this
  obtain ⟨vs, h1, h2⟩ := pa_Hi_get H e24 (by decide)
  obtain ⟨v0, vs0, rfl, ⟨th, rfl, l0, u0⟩, q0⟩ := pa_as1 h2
  obtain ⟨v1, vs1, rfl, ⟨w, rfl, l1, u1⟩, q1⟩ := pa_as1 q0
  obtain ⟨v2, vs2, rfl, ⟨h, rfl, l2, u2⟩, q2⟩ := pa_as1 q1
  obtain ⟨v3, vs3, rfl, ⟨b3, rfl, g3, -⟩, q3⟩ := pa_as1 q2
  obtain rfl : b3 = 39 + n := by have := pa_rgm (i := 7) g3 (by decide); omega
  obtain ⟨v4, vs4, rfl, ⟨pn, rfl, l4, u4⟩, q4⟩ := pa_as1 q3
  obtain ⟨v5, vs5, rfl, ⟨b5, rfl, g5, -⟩, q5⟩ := pa_as1 q4
  obtain rfl : b5 = 40 + n := by have := pa_rgm (i := 8) g5 (by decide); omega
  obtain ⟨v6, vs6, rfl, ⟨b6, rfl, g6, -⟩, q6⟩ := pa_as1 q5
  obtain rfl : b6 = 41 + n := by have := pa_rgm (i := 9) g6 (by decide); omega
  obtain ⟨v7, vs7, rfl, ⟨b7, rfl, g7, -⟩, q7⟩ := pa_as1 q6
  obtain rfl : b7 = 42 + n := by have := pa_rgm (i := 10) g7 (by decide); omega
  obtain ⟨v8, vs8, rfl, ⟨pl, rfl, l8, u8⟩, q8⟩ := pa_as1 q7
  obtain ⟨v9, vs9, rfl, ⟨b9, rfl, g9, -⟩, q9⟩ := pa_as1 q8
  obtain rfl : b9 = 43 + n := by have := pa_rgm (i := 11) g9 (by decide); omega
  obtain ⟨v10, vs10, rfl, ⟨b10, rfl, g10, -⟩, q10⟩ := pa_as1 q9
  obtain rfl : b10 = 44 + n := by have := pa_rgm (i := 12) g10 (by decide); omega
  obtain ⟨v11, vs11, rfl, ⟨b11, rfl, g11, -⟩, q11⟩ := pa_as1 q10
  obtain rfl : b11 = 45 + n := by have := pa_rgm (i := 13) g11 (by decide); omega
  obtain ⟨v12, vs12, rfl, ⟨b12, rfl, g12, -⟩, q12⟩ := pa_as1 q11
  obtain rfl : b12 = 46 + n := by have := pa_rgm (i := 14) g12 (by decide); omega
  obtain ⟨v13, vs13, rfl, ⟨fo, rfl, l13, u13⟩, q13⟩ := pa_as1 q12
  obtain ⟨v14, vs14, rfl, ⟨b14, rfl, g14, -⟩, q14⟩ := pa_as1 q13
  obtain rfl : b14 = 47 + n := by have := pa_rgm (i := 15) g14 (by decide); omega
  obtain ⟨v15, vs15, rfl, ⟨le, rfl, l15, u15⟩, q15⟩ := pa_as1 q14
  obtain ⟨v16, vs16, rfl, ⟨b16, rfl, g16, -⟩, q16⟩ := pa_as1 q15
  obtain rfl : b16 = 48 + n := by have := pa_rgm (i := 16) g16 (by decide); omega
  obtain ⟨v17, vs17, rfl, ⟨ru, rfl, l17, u17⟩, q17⟩ := pa_as1 q16
  obtain ⟨v18, vs18, rfl, ⟨b18, rfl, g18, -⟩, q18⟩ := pa_as1 q17
  obtain rfl : b18 = 49 + n := by have := pa_rgm (i := 17) g18 (by decide); omega
  obtain ⟨v19, vs19, rfl, ⟨b19, rfl, g19, -⟩, q19⟩ := pa_as1 q18
  obtain rfl : b19 = 50 + n := by have := pa_rgm (i := 18) g19 (by decide); omega
  obtain ⟨v20, vs20, rfl, ⟨b20, rfl, g20, -⟩, q20⟩ := pa_as1 q19
  obtain rfl : b20 = 51 + n := by have := pa_rgm (i := 19) g20 (by decide); omega
  obtain rfl := pa_as0 q20
  simp only [pa_ev, Int.zero_mul, Int.add_zero] at l0 u0 l1 u1 l2 u2 l4 u4 l8 u8 l13 u13 l15 u15 l17 u17
  exact ⟨th, w, h, pn, pl, fo, le, ru, h1, l0, u0, l1, u1, l2, u2, l4, u4, l8, u8, l13, u13, l15, u15, l17, u17⟩
theorem pa_ari {n : Nat} {hp : px_H} (H : pa_Hi n hp) {i t : Nat} {len lo hi : Int} (hi20 : i ≤ 20) (h1 : i ≠ 1) (hs : pa_rs (18 + i) = (t, .inr ((len, 0), pa_i lo hi))) : ∃ vs, hp[32 + n + i]? = some (t, vs) ∧ (vs.length : Int) = len ∧ ∀ k, k < vs.length → ∃ x : Int32, vs[k]? = some (.int x) ∧ lo ≤ x.toInt ∧ x.toInt ≤ hi := by
  obtain ⟨vs, e1, e2⟩ := pa_Hi_get H (pa_rgm' hi20 h1) (by omega)
  rw [hs] at e1 e2
  obtain ⟨e3, e4⟩ := e2
  refine ⟨vs, e1, by rw [e3, pa_ev_0], ?_⟩
  intro k hk
  obtain ⟨x, hx, l, u⟩ := e4 vs[k] (List.getElem_mem hk)
  rw [pa_ev_0] at l u
  exact ⟨x, by rw [List.getElem?_eq_getElem hk, hx], l, u⟩
theorem pa_ms {n : Nat} {hp : px_H} (H : pa_Hi n hp) {t k : Nat} {vs : List Value} {v : Value} {A : pa_V} (hh : hp[38 + n]? = some (t, vs)) (hA : (match (pa_rs 24).2 with | .inl l => l[k]? | _ => none) = some A) (hv : pa_gv n A v) : pa_Hi n (hp.set (38 + n) (t, vs.set k v)) :=
  pa_Hi_set H (r := 24) (by have := pa_rgm' (n := n) (i := 6) (by decide) (by decide); rw [show 38 + n = 32 + n + 6 by omega]; exact this) (by decide) hh ⟨A, hA, hv⟩ (by omega)
theorem pa_mf {n : Nat} {M : pa_M} {hp : px_H} {t k : Nat} {vs : List Value} {v : Value} (hh : hp[38 + n]? = some (t, vs)) (ht : t < 10) (hM : (24, k) ∈ M) : pa_Fr n M hp (hp.set (38 + n) (t, vs.set k v)) := by
  refine pa_Fr_set hh ?_
  rw [if_pos ht, show pa_rg n (38 + n) = 24 by have := pa_rgm' (n := n) (i := 6) (by decide) (by decide); rw [show 38 + n = 32 + n + 6 by omega]; exact this]
  exact hM
theorem pa_in {n : Nat} {lo hi : Int} {x : Int32} (h1 : lo ≤ x.toInt) (h2 : x.toInt ≤ hi) : pa_gv n (pa_i lo hi) (.int x) := ⟨x, rfl, by rw [pa_ev_0]; exact h1, by rw [pa_ev_0]; exact h2⟩
theorem pa_g24 {n a : Nat} (h : pa_rg n a = 24) : a = 38 + n := by have := pa_rgm (i := 6) h (by decide); omega
theorem pa_r24 {n : Nat} : pa_gv n (pa_rf 24) (.ref (38 + n)) := ⟨38 + n, rfl, by have := pa_rgm' (n := n) (i := 6) (by decide) (by decide); rw [show 38 + n = 32 + n + 6 by omega]; exact this, by decide⟩
def ck_78 : pa_K := ([pa_rf 24, pa_top, pa_top], some (pa_i 0 1), false, [])
def ck_79 : pa_K := ([pa_rf 24, pa_top], some (pa_i 0 1), false, [])
def ck_99 : pa_K := ([pa_rf 24, pa_i 0 2, pa_i 0 1], some (pa_i 0 1), false, [(24, 0)])
theorem ct_78 {n : Nat} (_ : pa_N n) : pa_Ct pa_tb n 78 ck_78 1 := by
  intro as hp H ha
  obtain ⟨u0, us0, rfl, ⟨a, rfl, ha24, -⟩, ha1⟩ := pa_as1 ha
  obtain rfl := pa_g24 ha24
  obtain ⟨u1, us1, rfl, ⟨x, rfl, x1, x2⟩, ha2⟩ := pa_as1 ha1
  obtain ⟨u2, us2, rfl, ⟨y, rfl, y1, y2⟩, ha3⟩ := pa_as1 ha2
  obtain rfl := pa_as0 ha3
  obtain ⟨th, w, h, pn, pl, fo, le, ru, hm, bth1, bth2, bw1, bw2, bh1, bh2, bpn1, bpn2, bpl1, bpl2, bfo1, bfo2, ble1, ble2, bru1, bru2⟩ := pa_mod H
  by_cases ho : (x < 0 ∨ w ≤ x ∨ y < 0 ∨ h ≤ y)
  · refine ⟨_, _, p_isCell_o (d := 1) hm ho, ⟨H, pa_Fr.refl _, Or.inl ⟨_, rfl, pa_in (by decide) (by decide), rfl⟩⟩, Or.inr ?_⟩
    intro v hv
    cases hv
    exact ⟨_, List.mem_cons_self, pa_in (by decide) (by decide), pa_r24, pa_top_ok _, pa_top_ok _, trivial⟩
  · refine ⟨_, _, p_isCell_i (d := 1) hm ho, ⟨H, pa_Fr.refl _, Or.inl ⟨_, rfl, pa_in (by decide) (by decide), rfl⟩⟩, Or.inr ?_⟩
    intro v hv
    cases hv
    have h1 : ¬ x < 0 := fun z => ho (Or.inl z)
    have h2 : ¬ w ≤ x := fun z => ho (Or.inr (Or.inl z))
    have h3 : ¬ y < 0 := fun z => ho (Or.inr (Or.inr (Or.inl z)))
    have h4 : ¬ h ≤ y := fun z => ho (Or.inr (Or.inr (Or.inr z)))
    rw [Int32.lt_iff_toInt_lt] at h1 h3
    rw [Int32.le_iff_toInt_le] at h2 h4
    have e0 : (0 : Int32).toInt = 0 := rfl
    exact ⟨_, List.mem_cons_of_mem _ List.mem_cons_self, pa_in (by decide) (by decide), pa_r24, pa_in (by omega) (by omega), pa_in (by omega) (by omega), trivial⟩
theorem ct_79 {n : Nat} (_ : pa_N n) : pa_Ct pa_tb n 79 ck_79 1 := by
  intro as hp H ha
  obtain ⟨u0, us0, rfl, ⟨a, rfl, ha24, -⟩, ha1⟩ := pa_as1 ha
  obtain rfl := pa_g24 ha24
  obtain ⟨u1, us1, rfl, ⟨x, rfl, x1, x2⟩, ha2⟩ := pa_as1 ha1
  obtain rfl := pa_as0 ha2
  obtain ⟨th, w, h, pn, pl, fo, le, ru, hm, bth1, bth2, bw1, bw2, bh1, bh2, bpn1, bpn2, bpl1, bpl2, bfo1, bfo2, ble1, ble2, bru1, bru2⟩ := pa_mod H
  by_cases ho : (x < 0 ∨ pn ≤ x)
  · refine ⟨_, _, p_isPiece_o (d := 1) hm ho, ⟨H, pa_Fr.refl _, Or.inl ⟨_, rfl, pa_in (by decide) (by decide), rfl⟩⟩, Or.inr ?_⟩
    intro v hv
    cases hv
    exact ⟨_, List.mem_cons_self, pa_in (by decide) (by decide), pa_r24, pa_top_ok _, trivial⟩
  · have h1 : ¬ x < 0 := fun z => ho (Or.inl z)
    have h2 : ¬ pn ≤ x := fun z => ho (Or.inr z)
    refine ⟨_, _, p_isPiece_3 (d := 1) hm h1 h2, ⟨H, pa_Fr.refl _, Or.inl ⟨_, rfl, pa_in (by decide) (by decide), rfl⟩⟩, Or.inr ?_⟩
    intro v hv
    cases hv
    rw [Int32.lt_iff_toInt_lt] at h1
    rw [Int32.le_iff_toInt_le] at h2
    have e0 : (0 : Int32).toInt = 0 := rfl
    exact ⟨_, List.mem_cons_of_mem _ List.mem_cons_self, pa_in (by decide) (by decide), pa_r24, pa_in (by omega) (by omega), trivial⟩
theorem pa_01 {x : Int32} (h1 : 0 ≤ x.toInt) (h2 : x.toInt ≤ 1) : x = 0 ∨ x = 1 := by
  have e0 : (0 : Int32).toInt = 0 := rfl
  have e1 : (1 : Int32).toInt = 1 := rfl
  rcases (show x.toInt = 0 ∨ x.toInt = 1 by omega) with e | e
  · exact Or.inl (Int32.toInt_inj.mp (e.trans e0.symm))
  · exact Or.inr (Int32.toInt_inj.mp (e.trans e1.symm))
theorem ct_99 {n : Nat} (_ : pa_N n) : pa_Ct pa_tb n 99 ck_99 1 := by
  intro as hp H ha
  obtain ⟨u0, us0, rfl, ⟨a, rfl, ha24, -⟩, ha1⟩ := pa_as1 ha
  obtain rfl := pa_g24 ha24
  obtain ⟨u1, us1, rfl, ⟨x, rfl, x1, x2⟩, ha2⟩ := pa_as1 ha1
  obtain ⟨u2, us2, rfl, ⟨y, rfl, y1, y2⟩, ha3⟩ := pa_as1 ha2
  obtain rfl := pa_as0 ha3
  obtain ⟨th, w, h, pn, pl, fo, le, ru, hm, bth1, bth2, bw1, bw2, bh1, bh2, bpn1, bpn2, bpl1, bpl2, bfo1, bfo2, ble1, ble2, bru1, bru2⟩ := pa_mod H
  simp only [pa_ev, Int.zero_mul, Int.add_zero] at x1 x2 y1 y2
  rcases pa_01 y1 y2 with rfl | rfl
  · refine ⟨_, _, p_throwsIf_0 (d := 1) hm (by omega), ⟨pa_ms (k := 0) (v := .int 0) H hm rfl (pa_in (by decide) (by decide)), pa_mf (k := 0) hm (by decide) (by decide), Or.inl ⟨_, rfl, pa_in (by decide) (by decide), by rw [List.length_set]⟩⟩, Or.inr ?_⟩
    intro v hv
    cases hv
    exact ⟨_, List.mem_cons_self, pa_in (by decide) (by decide), pa_r24, pa_in x1 x2, pa_in (by decide) (by decide), trivial⟩
  · refine ⟨_, _, p_throwsIf_1 (d := 1) hm (by omega), ⟨pa_ms (k := 0) (v := .int x) H hm rfl (pa_in x1 x2), pa_mf (k := 0) hm (by decide) (by decide), Or.inl ⟨_, rfl, pa_in (by decide) (by decide), by rw [List.length_set]⟩⟩, Or.inr ?_⟩
    intro v hv
    cases hv
    exact ⟨_, List.mem_cons_of_mem _ List.mem_cons_self, pa_in (by decide) (by decide), pa_r24, pa_in x1 x2, pa_in (by decide) (by decide), trivial⟩
