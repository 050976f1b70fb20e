def px_exc (hp : px_H) : px_H := hp ++ [(30, List.replicate 6 .null)]
theorem px_hdn {j pc : Nat} {E : String} (h : 11 < j) : px_hd j pc E = none := by
  unfold px_hd
  split
  · rw [if_neg (by omega)]
  · rw [if_neg (by omega)]
theorem px_hdA {j pc : Nat} (h : j = 5 ∨ j = 7 ∨ j = 8 ∨ j = 9 ∨ j = 10 ∨ j = 11) (hp : pc < 9) : px_hd j pc "java/lang/ArrayIndexOutOfBoundsException" = some 1 := by
  unfold px_hd
  rw [if_pos rfl, if_pos ⟨h, hp⟩]
theorem px_ri {d j pc : Nat} {lv : px_L} {hp : px_H} {v : Int32} {ty : FieldType} (hi : px_ins (px_tab j) pc = some .ireturn) (ht : px_rt j = some ty) (hn : narrow ty (.int v) = .int v) : px_Go d j (pc, lv, [.int v], hp) (.inl (some (.int v)), hp) :=
  px_e hi (by simp only [px_step, ht, hn, if_true]; rfl)
theorem px_irem {d j pc : Nat} {lv : px_L} {hp : px_H} {rs : List Value} {x y : Int32} {r : px_E} (hi : px_ins (px_tab j) pc = some .irem) (hy : ¬ y = 0) (K : px_Go d j (pc + 1, lv, .int (x - x / y * y) :: rs, hp) r) : px_Go d j (pc, lv, .int y :: .int x :: rs, hp) r :=
  px_r hi (by simp only [px_step, px_iz, if_neg hy]; rfl) K
theorem px_idiv {d j pc : Nat} {lv : px_L} {hp : px_H} {rs : List Value} {x y : Int32} {r : px_E} (hi : px_ins (px_tab j) pc = some .idiv) (hy : ¬ y = 0) (K : px_Go d j (pc + 1, lv, .int (x / y) :: rs, hp) r) : px_Go d j (pc, lv, .int y :: .int x :: rs, hp) r :=
  px_r hi (by simp only [px_step, px_iz, if_neg hy]; rfl) K
set_option maxRecDepth 20000 in
theorem p_thrown {d : Nat} {hp : px_H} {m a0 a1 a2 a3 a4 a5 a6 a7 a8 a9 a10 a11 a12 : Nat} {th pn pl fo le ru : Int32} {w h : Int32} (hm : hp[m]? = some (4, [.int th, .int w, .int h, .ref a0, .int pn, .ref a1, .ref a2, .ref a3, .int pl, .ref a4, .ref a5, .ref a6, .ref a7, .int fo, .ref a8, .int le, .ref a9, .int ru, .ref a10, .ref a11, .ref a12])) : px_Go d 99 (0, [(0, .ref m)], [], hp) (.inl (some (.int th)), hp) := by
  refine px_a 1 (f' := (1, [(0, .ref m)], [.ref m], hp)) rfl ?_
  refine px_gf m 58 4 0 (.int th) rfl rfl hm rfl ?_
  show px_Go _ _ (4, [(0, .ref m)], [.int th], hp) _
  exact px_ri rfl rfl rfl
set_option maxRecDepth 20000 in
theorem p_cells {d : Nat} {hp : px_H} {m a0 a1 a2 a3 a4 a5 a6 a7 a8 a9 a10 a11 a12 : Nat} {th pn pl fo le ru : Int32} {w h : Int32} (hm : hp[m]? = some (4, [.int th, .int w, .int h, .ref a0, .int pn, .ref a1, .ref a2, .ref a3, .int pl, .ref a4, .ref a5, .ref a6, .ref a7, .int fo, .ref a8, .int le, .ref a9, .int ru, .ref a10, .ref a11, .ref a12])) : px_Go d 72 (0, [(0, .ref m)], [], hp) (.inl (some (.int (w * h))), hp) := by
  refine px_a 1 (f' := (1, [(0, .ref m)], [.ref m], hp)) rfl ?_
  refine px_gf m 51 4 1 (.int w) rfl rfl hm rfl ?_
  show px_Go _ _ (4, [(0, .ref m)], [.int w], hp) _
  refine px_a 1 (f' := (5, [(0, .ref m)], [.ref m, .int w], hp)) rfl ?_
  refine px_gf m 55 4 2 (.int h) rfl rfl hm rfl ?_
  show px_Go _ _ (8, [(0, .ref m)], [.int h, .int w], hp) _
  refine px_a 1 (f' := (9, [(0, .ref m)], [.int (w * h)], hp)) rfl ?_
  exact px_ri rfl rfl rfl
set_option maxRecDepth 20000 in
theorem p_isCell_1 {d : Nat} {hp : px_H} {m a0 a1 a2 a3 a4 a5 a6 a7 a8 a9 a10 a11 a12 : Nat} {th pn pl fo le ru : Int32} {w h : Int32} {x y : Int32} (hm : hp[m]? = some (4, [.int th, .int w, .int h, .ref a0, .int pn, .ref a1, .ref a2, .ref a3, .int pl, .ref a4, .ref a5, .ref a6, .ref a7, .int fo, .ref a8, .int le, .ref a9, .int ru, .ref a10, .ref a11, .ref a12])) (h1 : x < 0) : px_Go d 78 (0, [(0, .ref m), (1, .int x), (2, .int y)], [], hp) (.inl (some (.int 0)), hp) := by
  refine px_a 1 (f' := (1, [(0, .ref m), (1, .int x), (2, .int y)], [.int x], hp)) rfl ?_
  refine px_b1 true 28 rfl rfl (decide_eq_true h1) ?_
  show px_Go _ _ (28, [(0, .ref m), (1, .int x), (2, .int y)], [], hp) _
  refine px_a 1 (f' := (29, [(0, .ref m), (1, .int x), (2, .int y)], [.int 0], hp)) rfl ?_
  exact px_ri rfl rfl rfl
set_option maxRecDepth 20000 in
theorem p_isCell_2 {d : Nat} {hp : px_H} {m a0 a1 a2 a3 a4 a5 a6 a7 a8 a9 a10 a11 a12 : Nat} {th pn pl fo le ru : Int32} {w h : Int32} {x y : Int32} (hm : hp[m]? = some (4, [.int th, .int w, .int h, .ref a0, .int pn, .ref a1, .ref a2, .ref a3, .int pl, .ref a4, .ref a5, .ref a6, .ref a7, .int fo, .ref a8, .int le, .ref a9, .int ru, .ref a10, .ref a11, .ref a12])) (h1 : ¬ x < 0) (h2 : w ≤ x) : px_Go d 78 (0, [(0, .ref m), (1, .int x), (2, .int y)], [], hp) (.inl (some (.int 0)), hp) := by
  refine px_a 1 (f' := (1, [(0, .ref m), (1, .int x), (2, .int y)], [.int x], hp)) rfl ?_
  refine px_b1 false 28 rfl rfl (decide_eq_false h1) ?_
  show px_Go _ _ (4, [(0, .ref m), (1, .int x), (2, .int y)], [], hp) _
  refine px_a 2 (f' := (6, [(0, .ref m), (1, .int x), (2, .int y)], [.ref m, .int x], hp)) rfl ?_
  refine px_gf m 51 4 1 (.int w) rfl rfl hm rfl ?_
  show px_Go _ _ (9, [(0, .ref m), (1, .int x), (2, .int y)], [.int w, .int x], hp) _
  refine px_b2 true 28 rfl rfl (decide_eq_true h2) ?_
  show px_Go _ _ (28, [(0, .ref m), (1, .int x), (2, .int y)], [], hp) _
  refine px_a 1 (f' := (29, [(0, .ref m), (1, .int x), (2, .int y)], [.int 0], hp)) rfl ?_
  exact px_ri rfl rfl rfl
set_option maxRecDepth 20000 in
theorem p_isCell_3 {d : Nat} {hp : px_H} {m a0 a1 a2 a3 a4 a5 a6 a7 a8 a9 a10 a11 a12 : Nat} {th pn pl fo le ru : Int32} {w h : Int32} {x y : Int32} (hm : hp[m]? = some (4, [.int th, .int w, .int h, .ref a0, .int pn, .ref a1, .ref a2, .ref a3, .int pl, .ref a4, .ref a5, .ref a6, .ref a7, .int fo, .ref a8, .int le, .ref a9, .int ru, .ref a10, .ref a11, .ref a12])) (h1 : ¬ x < 0) (h2 : ¬ w ≤ x) (h3 : y < 0) : px_Go d 78 (0, [(0, .ref m), (1, .int x), (2, .int y)], [], hp) (.inl (some (.int 0)), hp) := by
  refine px_a 1 (f' := (1, [(0, .ref m), (1, .int x), (2, .int y)], [.int x], hp)) rfl ?_
  refine px_b1 false 28 rfl rfl (decide_eq_false h1) ?_
  show px_Go _ _ (4, [(0, .ref m), (1, .int x), (2, .int y)], [], hp) _
  refine px_a 2 (f' := (6, [(0, .ref m), (1, .int x), (2, .int y)], [.ref m, .int x], hp)) rfl ?_
  refine px_gf m 51 4 1 (.int w) rfl rfl hm rfl ?_
  show px_Go _ _ (9, [(0, .ref m), (1, .int x), (2, .int y)], [.int w, .int x], hp) _
  refine px_b2 false 28 rfl rfl (decide_eq_false h2) ?_
  show px_Go _ _ (12, [(0, .ref m), (1, .int x), (2, .int y)], [], hp) _
  refine px_a 1 (f' := (13, [(0, .ref m), (1, .int x), (2, .int y)], [.int y], hp)) rfl ?_
  refine px_b1 true 28 rfl rfl (decide_eq_true h3) ?_
  show px_Go _ _ (28, [(0, .ref m), (1, .int x), (2, .int y)], [], hp) _
  refine px_a 1 (f' := (29, [(0, .ref m), (1, .int x), (2, .int y)], [.int 0], hp)) rfl ?_
  exact px_ri rfl rfl rfl
set_option maxRecDepth 20000 in
theorem p_isCell_4 {d : Nat} {hp : px_H} {m a0 a1 a2 a3 a4 a5 a6 a7 a8 a9 a10 a11 a12 : Nat} {th pn pl fo le ru : Int32} {w h : Int32} {x y : Int32} (hm : hp[m]? = some (4, [.int th, .int w, .int h, .ref a0, .int pn, .ref a1, .ref a2, .ref a3, .int pl, .ref a4, .ref a5, .ref a6, .ref a7, .int fo, .ref a8, .int le, .ref a9, .int ru, .ref a10, .ref a11, .ref a12])) (h1 : ¬ x < 0) (h2 : ¬ w ≤ x) (h3 : ¬ y < 0) (h4 : h ≤ y) : px_Go d 78 (0, [(0, .ref m), (1, .int x), (2, .int y)], [], hp) (.inl (some (.int 0)), hp) := by
  refine px_a 1 (f' := (1, [(0, .ref m), (1, .int x), (2, .int y)], [.int x], hp)) rfl ?_
  refine px_b1 false 28 rfl rfl (decide_eq_false h1) ?_
  show px_Go _ _ (4, [(0, .ref m), (1, .int x), (2, .int y)], [], hp) _
  refine px_a 2 (f' := (6, [(0, .ref m), (1, .int x), (2, .int y)], [.ref m, .int x], hp)) rfl ?_
  refine px_gf m 51 4 1 (.int w) rfl rfl hm rfl ?_
  show px_Go _ _ (9, [(0, .ref m), (1, .int x), (2, .int y)], [.int w, .int x], hp) _
  refine px_b2 false 28 rfl rfl (decide_eq_false h2) ?_
  show px_Go _ _ (12, [(0, .ref m), (1, .int x), (2, .int y)], [], hp) _
  refine px_a 1 (f' := (13, [(0, .ref m), (1, .int x), (2, .int y)], [.int y], hp)) rfl ?_
  refine px_b1 false 28 rfl rfl (decide_eq_false h3) ?_
  show px_Go _ _ (16, [(0, .ref m), (1, .int x), (2, .int y)], [], hp) _
  refine px_a 2 (f' := (18, [(0, .ref m), (1, .int x), (2, .int y)], [.ref m, .int y], hp)) rfl ?_
  refine px_gf m 55 4 2 (.int h) rfl rfl hm rfl ?_
  show px_Go _ _ (21, [(0, .ref m), (1, .int x), (2, .int y)], [.int h, .int y], hp) _
  refine px_b2 true 28 rfl rfl (decide_eq_true h4) ?_
  show px_Go _ _ (28, [(0, .ref m), (1, .int x), (2, .int y)], [], hp) _
  refine px_a 1 (f' := (29, [(0, .ref m), (1, .int x), (2, .int y)], [.int 0], hp)) rfl ?_
  exact px_ri rfl rfl rfl
set_option maxRecDepth 20000 in
theorem p_isCell_5 {d : Nat} {hp : px_H} {m a0 a1 a2 a3 a4 a5 a6 a7 a8 a9 a10 a11 a12 : Nat} {th pn pl fo le ru : Int32} {w h : Int32} {x y : Int32} (hm : hp[m]? = some (4, [.int th, .int w, .int h, .ref a0, .int pn, .ref a1, .ref a2, .ref a3, .int pl, .ref a4, .ref a5, .ref a6, .ref a7, .int fo, .ref a8, .int le, .ref a9, .int ru, .ref a10, .ref a11, .ref a12])) (h1 : ¬ x < 0) (h2 : ¬ w ≤ x) (h3 : ¬ y < 0) (h4 : ¬ h ≤ y) : px_Go d 78 (0, [(0, .ref m), (1, .int x), (2, .int y)], [], hp) (.inl (some (.int 1)), hp) := by
  refine px_a 1 (f' := (1, [(0, .ref m), (1, .int x), (2, .int y)], [.int x], hp)) rfl ?_
  refine px_b1 false 28 rfl rfl (decide_eq_false h1) ?_
  show px_Go _ _ (4, [(0, .ref m), (1, .int x), (2, .int y)], [], hp) _
  refine px_a 2 (f' := (6, [(0, .ref m), (1, .int x), (2, .int y)], [.ref m, .int x], hp)) rfl ?_
  refine px_gf m 51 4 1 (.int w) rfl rfl hm rfl ?_
  show px_Go _ _ (9, [(0, .ref m), (1, .int x), (2, .int y)], [.int w, .int x], hp) _
  refine px_b2 false 28 rfl rfl (decide_eq_false h2) ?_
  show px_Go _ _ (12, [(0, .ref m), (1, .int x), (2, .int y)], [], hp) _
  refine px_a 1 (f' := (13, [(0, .ref m), (1, .int x), (2, .int y)], [.int y], hp)) rfl ?_
  refine px_b1 false 28 rfl rfl (decide_eq_false h3) ?_
  show px_Go _ _ (16, [(0, .ref m), (1, .int x), (2, .int y)], [], hp) _
  refine px_a 2 (f' := (18, [(0, .ref m), (1, .int x), (2, .int y)], [.ref m, .int y], hp)) rfl ?_
  refine px_gf m 55 4 2 (.int h) rfl rfl hm rfl ?_
  show px_Go _ _ (21, [(0, .ref m), (1, .int x), (2, .int y)], [.int h, .int y], hp) _
  refine px_b2 false 28 rfl rfl (decide_eq_false h4) ?_
  show px_Go _ _ (24, [(0, .ref m), (1, .int x), (2, .int y)], [], hp) _
  refine px_a 2 (f' := (29, [(0, .ref m), (1, .int x), (2, .int y)], [.int 1], hp)) rfl ?_
  exact px_ri rfl rfl rfl
set_option maxRecDepth 20000 in
theorem p_isCell_o {d : Nat} {hp : px_H} {m a0 a1 a2 a3 a4 a5 a6 a7 a8 a9 a10 a11 a12 : Nat} {th pn pl fo le ru : Int32} {w h : Int32} {x y : Int32} (hm : hp[m]? = some (4, [.int th, .int w, .int h, .ref a0, .int pn, .ref a1, .ref a2, .ref a3, .int pl, .ref a4, .ref a5, .ref a6, .ref a7, .int fo, .ref a8, .int le, .ref a9, .int ru, .ref a10, .ref a11, .ref a12])) (ho : (x < 0 ∨ w ≤ x ∨ y < 0 ∨ h ≤ y)) : px_Go d 78 (0, [(0, .ref m), (1, .int x), (2, .int y)], [], hp) (.inl (some (.int 0)), hp) := by
  by_cases h1 : x < 0
  · exact p_isCell_1 hm h1
  · by_cases h2 : w ≤ x
    · exact p_isCell_2 hm h1 h2
    · by_cases h3 : y < 0
      · exact p_isCell_3 hm h1 h2 h3
      · by_cases h4 : h ≤ y
        · exact p_isCell_4 hm h1 h2 h3 h4
        · exact absurd ho (by rintro (q | q | q | q) <;> contradiction)
set_option maxRecDepth 20000 in
theorem p_isCell_i {d : Nat} {hp : px_H} {m a0 a1 a2 a3 a4 a5 a6 a7 a8 a9 a10 a11 a12 : Nat} {th pn pl fo le ru : Int32} {w h : Int32} {x y : Int32} (hm : hp[m]? = some (4, [.int th, .int w, .int h, .ref a0, .int pn, .ref a1, .ref a2, .ref a3, .int pl, .ref a4, .ref a5, .ref a6, .ref a7, .int fo, .ref a8, .int le, .ref a9, .int ru, .ref a10, .ref a11, .ref a12])) (ho : ¬ (x < 0 ∨ w ≤ x ∨ y < 0 ∨ h ≤ y)) : px_Go d 78 (0, [(0, .ref m), (1, .int x), (2, .int y)], [], hp) (.inl (some (.int 1)), hp) := by
  exact p_isCell_5 hm (fun q => ho (Or.inl q)) (fun q => ho (Or.inr (Or.inl q))) (fun q => ho (Or.inr (Or.inr (Or.inl q)))) (fun q => ho (Or.inr (Or.inr (Or.inr q))))
set_option maxRecDepth 20000 in
theorem p_throwsIf_0 {d : Nat} {hp : px_H} {m a0 a1 a2 a3 a4 a5 a6 a7 a8 a9 a10 a11 a12 : Nat} {th pn pl fo le ru : Int32} {w h : Int32} {k : Int32} (hm : hp[m]? = some (4, [.int th, .int w, .int h, .ref a0, .int pn, .ref a1, .ref a2, .ref a3, .int pl, .ref a4, .ref a5, .ref a6, .ref a7, .int fo, .ref a8, .int le, .ref a9, .int ru, .ref a10, .ref a11, .ref a12])) (gm : 8 ≤ m) : px_Go d 100 (0, [(0, .ref m), (1, .int k), (2, .int 0)], [], hp) (.inl (some (.int 0)), hp.set m (4, [.int 0, .int w, .int h, .ref a0, .int pn, .ref a1, .ref a2, .ref a3, .int pl, .ref a4, .ref a5, .ref a6, .ref a7, .int fo, .ref a8, .int le, .ref a9, .int ru, .ref a10, .ref a11, .ref a12])) := by
  refine px_a 4 (f' := (10, [(0, .ref m), (1, .int k), (2, .int 0)], [.int 0, .ref m], hp)) rfl ?_
  refine px_pf m 58 4 0 rfl rfl hm (by omega) (by simp) rfl rfl (by decide) ?_
  have hf1_m : (hp.set m (4, [.int 0, .int w, .int h, .ref a0, .int pn, .ref a1, .ref a2, .ref a3, .int pl, .ref a4, .ref a5, .ref a6, .ref a7, .int fo, .ref a8, .int le, .ref a9, .int ru, .ref a10, .ref a11, .ref a12]))[m]? = some (4, [.int 0, .int w, .int h, .ref a0, .int pn, .ref a1, .ref a2, .ref a3, .int pl, .ref a4, .ref a5, .ref a6, .ref a7, .int fo, .ref a8, .int le, .ref a9, .int ru, .ref a10, .ref a11, .ref a12]) := px_self hm
  show px_Go _ _ (13, [(0, .ref m), (1, .int k), (2, .int 0)], [], (hp.set m (4, [.int 0, .int w, .int h, .ref a0, .int pn, .ref a1, .ref a2, .ref a3, .int pl, .ref a4, .ref a5, .ref a6, .ref a7, .int fo, .ref a8, .int le, .ref a9, .int ru, .ref a10, .ref a11, .ref a12]))) _
  refine px_a 1 (f' := (14, [(0, .ref m), (1, .int k), (2, .int 0)], [.int 0], (hp.set m (4, [.int 0, .int w, .int h, .ref a0, .int pn, .ref a1, .ref a2, .ref a3, .int pl, .ref a4, .ref a5, .ref a6, .ref a7, .int fo, .ref a8, .int le, .ref a9, .int ru, .ref a10, .ref a11, .ref a12])))) rfl ?_
  exact px_ri rfl rfl rfl
set_option maxRecDepth 20000 in
theorem p_throwsIf_1 {d : Nat} {hp : px_H} {m a0 a1 a2 a3 a4 a5 a6 a7 a8 a9 a10 a11 a12 : Nat} {th pn pl fo le ru : Int32} {w h : Int32} {k : Int32} (hm : hp[m]? = some (4, [.int th, .int w, .int h, .ref a0, .int pn, .ref a1, .ref a2, .ref a3, .int pl, .ref a4, .ref a5, .ref a6, .ref a7, .int fo, .ref a8, .int le, .ref a9, .int ru, .ref a10, .ref a11, .ref a12])) (gm : 8 ≤ m) : px_Go d 100 (0, [(0, .ref m), (1, .int k), (2, .int 1)], [], hp) (.inl (some (.int 1)), hp.set m (4, [.int k, .int w, .int h, .ref a0, .int pn, .ref a1, .ref a2, .ref a3, .int pl, .ref a4, .ref a5, .ref a6, .ref a7, .int fo, .ref a8, .int le, .ref a9, .int ru, .ref a10, .ref a11, .ref a12])) := by
  refine px_a 5 (f' := (10, [(0, .ref m), (1, .int k), (2, .int 1)], [.int k, .ref m], hp)) rfl ?_
  refine px_pf m 58 4 0 rfl rfl hm (by omega) (by simp) rfl rfl (by decide) ?_
  have hf1_m : (hp.set m (4, [.int k, .int w, .int h, .ref a0, .int pn, .ref a1, .ref a2, .ref a3, .int pl, .ref a4, .ref a5, .ref a6, .ref a7, .int fo, .ref a8, .int le, .ref a9, .int ru, .ref a10, .ref a11, .ref a12]))[m]? = some (4, [.int k, .int w, .int h, .ref a0, .int pn, .ref a1, .ref a2, .ref a3, .int pl, .ref a4, .ref a5, .ref a6, .ref a7, .int fo, .ref a8, .int le, .ref a9, .int ru, .ref a10, .ref a11, .ref a12]) := px_self hm
  show px_Go _ _ (13, [(0, .ref m), (1, .int k), (2, .int 1)], [], (hp.set m (4, [.int k, .int w, .int h, .ref a0, .int pn, .ref a1, .ref a2, .ref a3, .int pl, .ref a4, .ref a5, .ref a6, .ref a7, .int fo, .ref a8, .int le, .ref a9, .int ru, .ref a10, .ref a11, .ref a12]))) _
  refine px_a 1 (f' := (14, [(0, .ref m), (1, .int k), (2, .int 1)], [.int 1], (hp.set m (4, [.int k, .int w, .int h, .ref a0, .int pn, .ref a1, .ref a2, .ref a3, .int pl, .ref a4, .ref a5, .ref a6, .ref a7, .int fo, .ref a8, .int le, .ref a9, .int ru, .ref a10, .ref a11, .ref a12])))) rfl ?_
  exact px_ri rfl rfl rfl
set_option maxRecDepth 20000 in
theorem p_isPiece_1 {d : Nat} {hp : px_H} {m a0 a1 a2 a3 a4 a5 a6 a7 a8 a9 a10 a11 a12 : Nat} {th pn pl fo le ru : Int32} {w h : Int32} {q : Int32} (hm : hp[m]? = some (4, [.int th, .int w, .int h, .ref a0, .int pn, .ref a1, .ref a2, .ref a3, .int pl, .ref a4, .ref a5, .ref a6, .ref a7, .int fo, .ref a8, .int le, .ref a9, .int ru, .ref a10, .ref a11, .ref a12])) (h1 : q < 0) : px_Go d 79 (0, [(0, .ref m), (1, .int q)], [], hp) (.inl (some (.int 0)), hp) := by
  refine px_a 1 (f' := (1, [(0, .ref m), (1, .int q)], [.int q], hp)) rfl ?_
  refine px_b1 true 16 rfl rfl (decide_eq_true h1) ?_
  show px_Go _ _ (16, [(0, .ref m), (1, .int q)], [], hp) _
  refine px_a 1 (f' := (17, [(0, .ref m), (1, .int q)], [.int 0], hp)) rfl ?_
  exact px_ri rfl rfl rfl
set_option maxRecDepth 20000 in
theorem p_isPiece_2 {d : Nat} {hp : px_H} {m a0 a1 a2 a3 a4 a5 a6 a7 a8 a9 a10 a11 a12 : Nat} {th pn pl fo le ru : Int32} {w h : Int32} {q : Int32} (hm : hp[m]? = some (4, [.int th, .int w, .int h, .ref a0, .int pn, .ref a1, .ref a2, .ref a3, .int pl, .ref a4, .ref a5, .ref a6, .ref a7, .int fo, .ref a8, .int le, .ref a9, .int ru, .ref a10, .ref a11, .ref a12])) (h1 : ¬ q < 0) (h2 : pn ≤ q) : px_Go d 79 (0, [(0, .ref m), (1, .int q)], [], hp) (.inl (some (.int 0)), hp) := by
  refine px_a 1 (f' := (1, [(0, .ref m), (1, .int q)], [.int q], hp)) rfl ?_
  refine px_b1 false 16 rfl rfl (decide_eq_false h1) ?_
  show px_Go _ _ (4, [(0, .ref m), (1, .int q)], [], hp) _
  refine px_a 2 (f' := (6, [(0, .ref m), (1, .int q)], [.ref m, .int q], hp)) rfl ?_
  refine px_gf m 61 4 4 (.int pn) rfl rfl hm rfl ?_
  show px_Go _ _ (9, [(0, .ref m), (1, .int q)], [.int pn, .int q], hp) _
  refine px_b2 true 16 rfl rfl (decide_eq_true h2) ?_
  show px_Go _ _ (16, [(0, .ref m), (1, .int q)], [], hp) _
  refine px_a 1 (f' := (17, [(0, .ref m), (1, .int q)], [.int 0], hp)) rfl ?_
  exact px_ri rfl rfl rfl
set_option maxRecDepth 20000 in
theorem p_isPiece_3 {d : Nat} {hp : px_H} {m a0 a1 a2 a3 a4 a5 a6 a7 a8 a9 a10 a11 a12 : Nat} {th pn pl fo le ru : Int32} {w h : Int32} {q : Int32} (hm : hp[m]? = some (4, [.int th, .int w, .int h, .ref a0, .int pn, .ref a1, .ref a2, .ref a3, .int pl, .ref a4, .ref a5, .ref a6, .ref a7, .int fo, .ref a8, .int le, .ref a9, .int ru, .ref a10, .ref a11, .ref a12])) (h1 : ¬ q < 0) (h2 : ¬ pn ≤ q) : px_Go d 79 (0, [(0, .ref m), (1, .int q)], [], hp) (.inl (some (.int 1)), hp) := by
  refine px_a 1 (f' := (1, [(0, .ref m), (1, .int q)], [.int q], hp)) rfl ?_
  refine px_b1 false 16 rfl rfl (decide_eq_false h1) ?_
  show px_Go _ _ (4, [(0, .ref m), (1, .int q)], [], hp) _
  refine px_a 2 (f' := (6, [(0, .ref m), (1, .int q)], [.ref m, .int q], hp)) rfl ?_
  refine px_gf m 61 4 4 (.int pn) rfl rfl hm rfl ?_
  show px_Go _ _ (9, [(0, .ref m), (1, .int q)], [.int pn, .int q], hp) _
  refine px_b2 false 16 rfl rfl (decide_eq_false h2) ?_
  show px_Go _ _ (12, [(0, .ref m), (1, .int q)], [], hp) _
  refine px_a 2 (f' := (17, [(0, .ref m), (1, .int q)], [.int 1], hp)) rfl ?_
  exact px_ri rfl rfl rfl
set_option maxRecDepth 20000 in
theorem p_isPiece_o {d : Nat} {hp : px_H} {m a0 a1 a2 a3 a4 a5 a6 a7 a8 a9 a10 a11 a12 : Nat} {th pn pl fo le ru : Int32} {w h : Int32} {q : Int32} (hm : hp[m]? = some (4, [.int th, .int w, .int h, .ref a0, .int pn, .ref a1, .ref a2, .ref a3, .int pl, .ref a4, .ref a5, .ref a6, .ref a7, .int fo, .ref a8, .int le, .ref a9, .int ru, .ref a10, .ref a11, .ref a12])) (ho : q < 0 ∨ pn ≤ q) : px_Go d 79 (0, [(0, .ref m), (1, .int q)], [], hp) (.inl (some (.int 0)), hp) := by
  by_cases h1 : q < 0
  · exact p_isPiece_1 hm h1
  · exact p_isPiece_2 hm h1 (ho.resolve_left h1)
set_option maxRecDepth 20000 in
theorem c_num_1 {d : Nat} {hp : px_H} {b2 b3 b4 b5 b6 : Nat} {fc fd : Int32} {sh : Int64} {w h : Int32} {x y : Int32} (hc : hp[(8 : Nat)]? = some (3, [.int w, .int h, .ref b2, .ref b3, .ref b4, .ref b5, .ref b6, .int fc, .long sh, .int fd])) (h1 : x < 0) : px_Go d 53 (0, [(0, .ref 8), (1, .int x), (2, .int y)], [], hp) (.inr "java/lang/ArrayIndexOutOfBoundsException", (px_exc hp)) := by
  refine px_a 1 (f' := (1, [(0, .ref 8), (1, .int x), (2, .int y)], [.int x], hp)) rfl ?_
  refine px_b1 true 24 rfl rfl (decide_eq_true h1) ?_
  show px_Go _ _ (24, [(0, .ref 8), (1, .int x), (2, .int y)], [], hp) _
  exact px_e rfl rfl
set_option maxRecDepth 20000 in
theorem c_num_2 {d : Nat} {hp : px_H} {b2 b3 b4 b5 b6 : Nat} {fc fd : Int32} {sh : Int64} {w h : Int32} {x y : Int32} (hc : hp[(8 : Nat)]? = some (3, [.int w, .int h, .ref b2, .ref b3, .ref b4, .ref b5, .ref b6, .int fc, .long sh, .int fd])) (h1 : ¬ x < 0) (h2 : w ≤ x) : px_Go d 53 (0, [(0, .ref 8), (1, .int x), (2, .int y)], [], hp) (.inr "java/lang/ArrayIndexOutOfBoundsException", (px_exc hp)) := by
  refine px_a 1 (f' := (1, [(0, .ref 8), (1, .int x), (2, .int y)], [.int x], hp)) rfl ?_
  refine px_b1 false 24 rfl rfl (decide_eq_false h1) ?_
  show px_Go _ _ (4, [(0, .ref 8), (1, .int x), (2, .int y)], [], hp) _
  refine px_a 2 (f' := (6, [(0, .ref 8), (1, .int x), (2, .int y)], [.ref 8, .int x], hp)) rfl ?_
  refine px_gf 8 18 3 0 (.int w) rfl rfl hc rfl ?_
  show px_Go _ _ (9, [(0, .ref 8), (1, .int x), (2, .int y)], [.int w, .int x], hp) _
  refine px_b2 true 24 rfl rfl (decide_eq_true h2) ?_
  show px_Go _ _ (24, [(0, .ref 8), (1, .int x), (2, .int y)], [], hp) _
  exact px_e rfl rfl
set_option maxRecDepth 20000 in
theorem c_num_3 {d : Nat} {hp : px_H} {b2 b3 b4 b5 b6 : Nat} {fc fd : Int32} {sh : Int64} {w h : Int32} {x y : Int32} (hc : hp[(8 : Nat)]? = some (3, [.int w, .int h, .ref b2, .ref b3, .ref b4, .ref b5, .ref b6, .int fc, .long sh, .int fd])) (h1 : ¬ x < 0) (h2 : ¬ w ≤ x) (h3 : y < 0) : px_Go d 53 (0, [(0, .ref 8), (1, .int x), (2, .int y)], [], hp) (.inr "java/lang/ArrayIndexOutOfBoundsException", (px_exc hp)) := by
  refine px_a 1 (f' := (1, [(0, .ref 8), (1, .int x), (2, .int y)], [.int x], hp)) rfl ?_
  refine px_b1 false 24 rfl rfl (decide_eq_false h1) ?_
  show px_Go _ _ (4, [(0, .ref 8), (1, .int x), (2, .int y)], [], hp) _
  refine px_a 2 (f' := (6, [(0, .ref 8), (1, .int x), (2, .int y)], [.ref 8, .int x], hp)) rfl ?_
  refine px_gf 8 18 3 0 (.int w) rfl rfl hc rfl ?_
  show px_Go _ _ (9, [(0, .ref 8), (1, .int x), (2, .int y)], [.int w, .int x], hp) _
  refine px_b2 false 24 rfl rfl (decide_eq_false h2) ?_
  show px_Go _ _ (12, [(0, .ref 8), (1, .int x), (2, .int y)], [], hp) _
  refine px_a 1 (f' := (13, [(0, .ref 8), (1, .int x), (2, .int y)], [.int y], hp)) rfl ?_
  refine px_b1 true 24 rfl rfl (decide_eq_true h3) ?_
  show px_Go _ _ (24, [(0, .ref 8), (1, .int x), (2, .int y)], [], hp) _
  exact px_e rfl rfl
set_option maxRecDepth 20000 in
theorem c_num_4 {d : Nat} {hp : px_H} {b2 b3 b4 b5 b6 : Nat} {fc fd : Int32} {sh : Int64} {w h : Int32} {x y : Int32} (hc : hp[(8 : Nat)]? = some (3, [.int w, .int h, .ref b2, .ref b3, .ref b4, .ref b5, .ref b6, .int fc, .long sh, .int fd])) (h1 : ¬ x < 0) (h2 : ¬ w ≤ x) (h3 : ¬ y < 0) (h4 : h ≤ y) : px_Go d 53 (0, [(0, .ref 8), (1, .int x), (2, .int y)], [], hp) (.inr "java/lang/ArrayIndexOutOfBoundsException", (px_exc hp)) := by
  refine px_a 1 (f' := (1, [(0, .ref 8), (1, .int x), (2, .int y)], [.int x], hp)) rfl ?_
  refine px_b1 false 24 rfl rfl (decide_eq_false h1) ?_
  show px_Go _ _ (4, [(0, .ref 8), (1, .int x), (2, .int y)], [], hp) _
  refine px_a 2 (f' := (6, [(0, .ref 8), (1, .int x), (2, .int y)], [.ref 8, .int x], hp)) rfl ?_
  refine px_gf 8 18 3 0 (.int w) rfl rfl hc rfl ?_
  show px_Go _ _ (9, [(0, .ref 8), (1, .int x), (2, .int y)], [.int w, .int x], hp) _
  refine px_b2 false 24 rfl rfl (decide_eq_false h2) ?_
  show px_Go _ _ (12, [(0, .ref 8), (1, .int x), (2, .int y)], [], hp) _
  refine px_a 1 (f' := (13, [(0, .ref 8), (1, .int x), (2, .int y)], [.int y], hp)) rfl ?_
  refine px_b1 false 24 rfl rfl (decide_eq_false h3) ?_
  show px_Go _ _ (16, [(0, .ref 8), (1, .int x), (2, .int y)], [], hp) _
  refine px_a 2 (f' := (18, [(0, .ref 8), (1, .int x), (2, .int y)], [.ref 8, .int y], hp)) rfl ?_
  refine px_gf 8 22 3 1 (.int h) rfl rfl hc rfl ?_
  show px_Go _ _ (21, [(0, .ref 8), (1, .int x), (2, .int y)], [.int h, .int y], hp) _
  refine px_b2 false 34 rfl rfl (decide_eq_false (Int32.not_lt.mpr h4)) ?_
  show px_Go _ _ (24, [(0, .ref 8), (1, .int x), (2, .int y)], [], hp) _
  exact px_e rfl rfl
set_option maxRecDepth 20000 in
theorem c_num_5 {d : Nat} {hp : px_H} {b2 b3 b4 b5 b6 : Nat} {fc fd : Int32} {sh : Int64} {w h : Int32} {x y : Int32} (hc : hp[(8 : Nat)]? = some (3, [.int w, .int h, .ref b2, .ref b3, .ref b4, .ref b5, .ref b6, .int fc, .long sh, .int fd])) (h1 : ¬ x < 0) (h2 : ¬ w ≤ x) (h3 : ¬ y < 0) (h4 : ¬ h ≤ y) : px_Go d 53 (0, [(0, .ref 8), (1, .int x), (2, .int y)], [], hp) (.inl (some (.int (w * y + x))), hp) := by
  refine px_a 1 (f' := (1, [(0, .ref 8), (1, .int x), (2, .int y)], [.int x], hp)) rfl ?_
  refine px_b1 false 24 rfl rfl (decide_eq_false h1) ?_
  show px_Go _ _ (4, [(0, .ref 8), (1, .int x), (2, .int y)], [], hp) _
  refine px_a 2 (f' := (6, [(0, .ref 8), (1, .int x), (2, .int y)], [.ref 8, .int x], hp)) rfl ?_
  refine px_gf 8 18 3 0 (.int w) rfl rfl hc rfl ?_
  show px_Go _ _ (9, [(0, .ref 8), (1, .int x), (2, .int y)], [.int w, .int x], hp) _
  refine px_b2 false 24 rfl rfl (decide_eq_false h2) ?_
  show px_Go _ _ (12, [(0, .ref 8), (1, .int x), (2, .int y)], [], hp) _
  refine px_a 1 (f' := (13, [(0, .ref 8), (1, .int x), (2, .int y)], [.int y], hp)) rfl ?_
  refine px_b1 false 24 rfl rfl (decide_eq_false h3) ?_
  show px_Go _ _ (16, [(0, .ref 8), (1, .int x), (2, .int y)], [], hp) _
  refine px_a 2 (f' := (18, [(0, .ref 8), (1, .int x), (2, .int y)], [.ref 8, .int y], hp)) rfl ?_
  refine px_gf 8 22 3 1 (.int h) rfl rfl hc rfl ?_
  show px_Go _ _ (21, [(0, .ref 8), (1, .int x), (2, .int y)], [.int h, .int y], hp) _
  refine px_b2 true 34 rfl rfl (decide_eq_true (Int32.not_le.mp h4)) ?_
  show px_Go _ _ (34, [(0, .ref 8), (1, .int x), (2, .int y)], [], hp) _
  refine px_a 1 (f' := (35, [(0, .ref 8), (1, .int x), (2, .int y)], [.ref 8], hp)) rfl ?_
  refine px_gf 8 18 3 0 (.int w) rfl rfl hc rfl ?_
  show px_Go _ _ (38, [(0, .ref 8), (1, .int x), (2, .int y)], [.int w], hp) _
  refine px_a 4 (f' := (42, [(0, .ref 8), (1, .int x), (2, .int y)], [.int ((w * y) + x)], hp)) rfl ?_
  exact px_ri rfl rfl rfl
set_option maxRecDepth 20000 in
theorem c_num_o {d : Nat} {hp : px_H} {b2 b3 b4 b5 b6 : Nat} {fc fd : Int32} {sh : Int64} {w h : Int32} {x y : Int32} (hc : hp[(8 : Nat)]? = some (3, [.int w, .int h, .ref b2, .ref b3, .ref b4, .ref b5, .ref b6, .int fc, .long sh, .int fd])) (ho : (x < 0 ∨ w ≤ x ∨ y < 0 ∨ h ≤ y)) : px_Go d 53 (0, [(0, .ref 8), (1, .int x), (2, .int y)], [], hp) (.inr "java/lang/ArrayIndexOutOfBoundsException", (px_exc hp)) := by
  by_cases h1 : x < 0
  · exact c_num_1 hc h1
  · by_cases h2 : w ≤ x
    · exact c_num_2 hc h1 h2
    · by_cases h3 : y < 0
      · exact c_num_3 hc h1 h2 h3
      · by_cases h4 : h ≤ y
        · exact c_num_4 hc h1 h2 h3 h4
        · exact absurd ho (by rintro (q | q | q | q) <;> contradiction)
set_option maxRecDepth 20000 in
theorem c_num_i {d : Nat} {hp : px_H} {b2 b3 b4 b5 b6 : Nat} {fc fd : Int32} {sh : Int64} {w h : Int32} {x y : Int32} (hc : hp[(8 : Nat)]? = some (3, [.int w, .int h, .ref b2, .ref b3, .ref b4, .ref b5, .ref b6, .int fc, .long sh, .int fd])) (ho : ¬ (x < 0 ∨ w ≤ x ∨ y < 0 ∨ h ≤ y)) : px_Go d 53 (0, [(0, .ref 8), (1, .int x), (2, .int y)], [], hp) (.inl (some (.int (w * y + x))), hp) := by
  exact c_num_5 hc (fun q => ho (Or.inl q)) (fun q => ho (Or.inr (Or.inl q))) (fun q => ho (Or.inr (Or.inr (Or.inl q)))) (fun q => ho (Or.inr (Or.inr (Or.inr q))))
set_option maxRecDepth 20000 in
theorem c_form_1 {d : Nat} {hp : px_H} {b2 b3 b4 b5 b6 : Nat} {fc fd : Int32} {sh : Int64} {w h : Int32} {q : Int32} (hc : hp[(8 : Nat)]? = some (3, [.int w, .int h, .ref b2, .ref b3, .ref b4, .ref b5, .ref b6, .int fc, .long sh, .int fd])) (h1 : q < 0) : px_Go d 49 (0, [(0, .ref 8), (1, .int q)], [], hp) (.inr "java/lang/ArrayIndexOutOfBoundsException", (px_exc hp)) := by
  refine px_a 1 (f' := (1, [(0, .ref 8), (1, .int q)], [.int q], hp)) rfl ?_
  refine px_b1 true 12 rfl rfl (decide_eq_true h1) ?_
  show px_Go _ _ (12, [(0, .ref 8), (1, .int q)], [], hp) _
  exact px_e rfl rfl
set_option maxRecDepth 20000 in
theorem c_form_2 {d : Nat} {hp : px_H} {b2 b3 b4 b5 b6 : Nat} {fc fd : Int32} {sh : Int64} {w h : Int32} {q : Int32} (hc : hp[(8 : Nat)]? = some (3, [.int w, .int h, .ref b2, .ref b3, .ref b4, .ref b5, .ref b6, .int fc, .long sh, .int fd])) (h1 : ¬ q < 0) (h2 : fc ≤ q) : px_Go d 49 (0, [(0, .ref 8), (1, .int q)], [], hp) (.inr "java/lang/ArrayIndexOutOfBoundsException", (px_exc hp)) := by
  refine px_a 1 (f' := (1, [(0, .ref 8), (1, .int q)], [.int q], hp)) rfl ?_
  refine px_b1 false 12 rfl rfl (decide_eq_false h1) ?_
  show px_Go _ _ (4, [(0, .ref 8), (1, .int q)], [], hp) _
  refine px_a 2 (f' := (6, [(0, .ref 8), (1, .int q)], [.ref 8, .int q], hp)) rfl ?_
  refine px_gf 8 72 3 7 (.int fc) rfl rfl hc rfl ?_
  show px_Go _ _ (9, [(0, .ref 8), (1, .int q)], [.int fc, .int q], hp) _
  refine px_b2 false 22 rfl rfl (decide_eq_false (Int32.not_lt.mpr h2)) ?_
  show px_Go _ _ (12, [(0, .ref 8), (1, .int q)], [], hp) _
  exact px_e rfl rfl
set_option maxRecDepth 20000 in
theorem c_form_o {d : Nat} {hp : px_H} {b2 b3 b4 b5 b6 : Nat} {fc fd : Int32} {sh : Int64} {w h : Int32} {q : Int32} (hc : hp[(8 : Nat)]? = some (3, [.int w, .int h, .ref b2, .ref b3, .ref b4, .ref b5, .ref b6, .int fc, .long sh, .int fd])) (ho : q < 0 ∨ fc ≤ q) : px_Go d 49 (0, [(0, .ref 8), (1, .int q)], [], hp) (.inr "java/lang/ArrayIndexOutOfBoundsException", (px_exc hp)) := by
  by_cases h1 : q < 0
  · exact c_form_1 hc h1
  · exact c_form_2 hc h1 (ho.resolve_left h1)
set_option maxRecDepth 20000 in
theorem c_in_0 {d : Nat} {hp : px_H} {b2 b3 b4 b5 b6 : Nat} {fc fd : Int32} {sh : Int64} {w h : Int32} {k : Int32} (hc : hp[(8 : Nat)]? = some (3, [.int w, .int h, .ref b2, .ref b3, .ref b4, .ref b5, .ref b6, .int fc, .long sh, .int fd])) (hz : (lg_cmp (sh >>> (Int32.toInt64 k &&& 63) &&& 1) 0) = 0) : px_Go d 50 (0, [(0, .ref 8), (1, .int k)], [], hp) (.inl (some (.int 0)), hp) := by
  refine px_a 1 (f' := (1, [(0, .ref 8), (1, .int k)], [.ref 8], hp)) rfl ?_
  refine px_gf 8 64 3 8 (.long sh) rfl rfl hc rfl ?_
  show px_Go _ _ (4, [(0, .ref 8), (1, .int k)], [.long sh], hp) _
  refine px_a 6 (f' := (10, [(0, .ref 8), (1, .int k)], [.int (lg_cmp ((sh >>> (Int32.toInt64 k &&& 63)) &&& 1) 0)], hp)) rfl ?_
  refine px_b1 true 17 rfl rfl (decide_eq_true hz) ?_
  show px_Go _ _ (17, [(0, .ref 8), (1, .int k)], [], hp) _
  refine px_a 1 (f' := (18, [(0, .ref 8), (1, .int k)], [.int 0], hp)) rfl ?_
  exact px_ri rfl rfl rfl
set_option maxRecDepth 20000 in
theorem c_in_1 {d : Nat} {hp : px_H} {b2 b3 b4 b5 b6 : Nat} {fc fd : Int32} {sh : Int64} {w h : Int32} {k : Int32} (hc : hp[(8 : Nat)]? = some (3, [.int w, .int h, .ref b2, .ref b3, .ref b4, .ref b5, .ref b6, .int fc, .long sh, .int fd])) (hz : ¬ (lg_cmp (sh >>> (Int32.toInt64 k &&& 63) &&& 1) 0) = 0) : px_Go d 50 (0, [(0, .ref 8), (1, .int k)], [], hp) (.inl (some (.int 1)), hp) := by
  refine px_a 1 (f' := (1, [(0, .ref 8), (1, .int k)], [.ref 8], hp)) rfl ?_
  refine px_gf 8 64 3 8 (.long sh) rfl rfl hc rfl ?_
  show px_Go _ _ (4, [(0, .ref 8), (1, .int k)], [.long sh], hp) _
  refine px_a 6 (f' := (10, [(0, .ref 8), (1, .int k)], [.int (lg_cmp ((sh >>> (Int32.toInt64 k &&& 63)) &&& 1) 0)], hp)) rfl ?_
  refine px_b1 false 17 rfl rfl (decide_eq_false hz) ?_
  show px_Go _ _ (13, [(0, .ref 8), (1, .int k)], [], hp) _
  refine px_a 2 (f' := (18, [(0, .ref 8), (1, .int k)], [.int 1], hp)) rfl ?_
  exact px_ri rfl rfl rfl
set_option maxRecDepth 20000 in
theorem c_cell_o {d : Nat} {hp : px_H} {b2 b3 b4 b5 b6 : Nat} {fc fd : Int32} {sh : Int64} {w h : Int32} {x y on : Int32} (hc : hp[(8 : Nat)]? = some (3, [.int w, .int h, .ref b2, .ref b3, .ref b4, .ref b5, .ref b6, .int fc, .long sh, .int fd])) (ho : (x < 0 ∨ w ≤ x ∨ y < 0 ∨ h ≤ y)) : px_Go (d + 1) 46 (0, [(0, .ref 8), (1, .int x), (2, .int y), (3, .int on)], [], hp) (.inr "java/lang/ArrayIndexOutOfBoundsException", (px_exc hp)) := by
  refine px_a 3 (f' := (3, [(0, .ref 8), (1, .int x), (2, .int y), (3, .int on)], [.int y, .int x, .ref 8], hp)) rfl ?_
  exact px_cvt 8 (as := [.int x, .int y]) (rest := []) rfl rfl hc rfl rfl rfl rfl (Nat.le_of_ble_eq_true rfl) (c_num_o hc ho) (px_hdn (by decide)) rfl
set_option maxRecDepth 20000 in
theorem c_cell_00 {d : Nat} {hp : px_H} {b2 b3 b4 b5 b6 : Nat} {fc fd : Int32} {sh : Int64} {w h : Int32} {x y : Int32} (hc : hp[(8 : Nat)]? = some (3, [.int w, .int h, .ref b2, .ref b3, .ref b4, .ref b5, .ref b6, .int fc, .long sh, .int fd])) (ho : ¬ (x < 0 ∨ w ≤ x ∨ y < 0 ∨ h ≤ y)) (hz : (lg_cmp (sh >>> (Int32.toInt64 (w * y + x) &&& 63) &&& 1) 0) = 0) : px_Go (d + 1) 46 (0, [(0, .ref 8), (1, .int x), (2, .int y), (3, .int 0)], [], hp) (.inl (some (.int 0)), hp) := by
  refine px_a 3 (f' := (3, [(0, .ref 8), (1, .int x), (2, .int y), (3, .int 0)], [.int y, .int x, .ref 8], hp)) rfl ?_
  refine px_cv 8 (as := [.int x, .int y]) (rest := []) rfl rfl hc rfl rfl rfl rfl (Nat.le_of_ble_eq_true rfl) (c_num_i hc ho) ?_
  show px_Go _ _ (6, [(0, .ref 8), (1, .int x), (2, .int y), (3, .int 0)], [.int (w * y + x)], hp) _
  refine px_a 3 (f' := (11, [(4, .int (w * y + x)), (0, .ref 8), (1, .int x), (2, .int y), (3, .int 0)], [.int (w * y + x), .ref 8], hp)) rfl ?_
  refine px_cv 8 (as := [.int (w * y + x)]) (rest := []) rfl rfl hc rfl rfl rfl rfl (Nat.le_of_ble_eq_true rfl) (c_in_0 hc hz) ?_
  show px_Go _ _ (14, [(4, .int (w * y + x)), (0, .ref 8), (1, .int x), (2, .int y), (3, .int 0)], [.int 0], hp) _
  refine px_a 3 (f' := (19, [(4, .int (w * y + x)), (0, .ref 8), (1, .int x), (2, .int y), (3, .int 0)], [.int 0], hp)) rfl ?_
  exact px_ri rfl rfl rfl
set_option maxRecDepth 20000 in
theorem c_cell_01 {d : Nat} {hp : px_H} {b2 b3 b4 b5 b6 : Nat} {fc fd : Int32} {sh : Int64} {w h : Int32} {x y : Int32} (hc : hp[(8 : Nat)]? = some (3, [.int w, .int h, .ref b2, .ref b3, .ref b4, .ref b5, .ref b6, .int fc, .long sh, .int fd])) (ho : ¬ (x < 0 ∨ w ≤ x ∨ y < 0 ∨ h ≤ y)) (hz : (lg_cmp (sh >>> (Int32.toInt64 (w * y + x) &&& 63) &&& 1) 0) = 0) : px_Go (d + 1) 46 (0, [(0, .ref 8), (1, .int x), (2, .int y), (3, .int 1)], [], hp) (.inl (some (.int 1)), (hp.set 8 (3, [.int w, .int h, .ref b2, .ref b3, .ref b4, .ref b5, .ref b6, .int fc, .long (sh ^^^ 1 <<< (Int32.toInt64 (w * y + x) &&& 63)), .int fd])).set 8 (3, [.int w, .int h, .ref b2, .ref b3, .ref b4, .ref b5, .ref b6, .int fc, .long (sh ^^^ 1 <<< (Int32.toInt64 (w * y + x) &&& 63)), .int 0])) := by
  refine px_a 3 (f' := (3, [(0, .ref 8), (1, .int x), (2, .int y), (3, .int 1)], [.int y, .int x, .ref 8], hp)) rfl ?_
  refine px_cv 8 (as := [.int x, .int y]) (rest := []) rfl rfl hc rfl rfl rfl rfl (Nat.le_of_ble_eq_true rfl) (c_num_i hc ho) ?_
  show px_Go _ _ (6, [(0, .ref 8), (1, .int x), (2, .int y), (3, .int 1)], [.int (w * y + x)], hp) _
  refine px_a 3 (f' := (11, [(4, .int (w * y + x)), (0, .ref 8), (1, .int x), (2, .int y), (3, .int 1)], [.int (w * y + x), .ref 8], hp)) rfl ?_
  refine px_cv 8 (as := [.int (w * y + x)]) (rest := []) rfl rfl hc rfl rfl rfl rfl (Nat.le_of_ble_eq_true rfl) (c_in_0 hc hz) ?_
  show px_Go _ _ (14, [(4, .int (w * y + x)), (0, .ref 8), (1, .int x), (2, .int y), (3, .int 1)], [.int 0], hp) _
  refine px_a 4 (f' := (22, [(4, .int (w * y + x)), (0, .ref 8), (1, .int x), (2, .int y), (3, .int 1)], [.ref 8, .ref 8], hp)) rfl ?_
  refine px_gf 8 64 3 8 (.long sh) rfl rfl hc rfl ?_
  show px_Go _ _ (25, [(4, .int (w * y + x)), (0, .ref 8), (1, .int x), (2, .int y), (3, .int 1)], [.long sh, .ref 8], hp) _
  refine px_a 4 (f' := (30, [(4, .int (w * y + x)), (0, .ref 8), (1, .int x), (2, .int y), (3, .int 1)], [.long (sh ^^^ (1 <<< (Int32.toInt64 (w * y + x) &&& 63))), .ref 8], hp)) rfl ?_
  refine px_pf 8 64 3 8 rfl rfl hc (by omega) (by simp) rfl rfl (by decide) ?_
  have hf1_8 : (hp.set 8 (3, [.int w, .int h, .ref b2, .ref b3, .ref b4, .ref b5, .ref b6, .int fc, .long (sh ^^^ (1 <<< (Int32.toInt64 (w * y + x) &&& 63))), .int fd]))[(8 : Nat)]? = some (3, [.int w, .int h, .ref b2, .ref b3, .ref b4, .ref b5, .ref b6, .int fc, .long (sh ^^^ (1 <<< (Int32.toInt64 (w * y + x) &&& 63))), .int fd]) := px_self hc
  show px_Go _ _ (33, [(4, .int (w * y + x)), (0, .ref 8), (1, .int x), (2, .int y), (3, .int 1)], [], (hp.set 8 (3, [.int w, .int h, .ref b2, .ref b3, .ref b4, .ref b5, .ref b6, .int fc, .long (sh ^^^ (1 <<< (Int32.toInt64 (w * y + x) &&& 63))), .int fd]))) _
  refine px_a 2 (f' := (35, [(4, .int (w * y + x)), (0, .ref 8), (1, .int x), (2, .int y), (3, .int 1)], [.int 0, .ref 8], (hp.set 8 (3, [.int w, .int h, .ref b2, .ref b3, .ref b4, .ref b5, .ref b6, .int fc, .long (sh ^^^ (1 <<< (Int32.toInt64 (w * y + x) &&& 63))), .int fd])))) rfl ?_
  refine px_pf 8 68 3 9 rfl rfl hf1_8 (by omega) (by simp) rfl rfl (by decide) ?_
  have hf2_8 : (((hp.set 8 (3, [.int w, .int h, .ref b2, .ref b3, .ref b4, .ref b5, .ref b6, .int fc, .long (sh ^^^ (1 <<< (Int32.toInt64 (w * y + x) &&& 63))), .int fd]))).set 8 (3, [.int w, .int h, .ref b2, .ref b3, .ref b4, .ref b5, .ref b6, .int fc, .long (sh ^^^ (1 <<< (Int32.toInt64 (w * y + x) &&& 63))), .int 0]))[(8 : Nat)]? = some (3, [.int w, .int h, .ref b2, .ref b3, .ref b4, .ref b5, .ref b6, .int fc, .long (sh ^^^ (1 <<< (Int32.toInt64 (w * y + x) &&& 63))), .int 0]) := px_self hf1_8
  show px_Go _ _ (38, [(4, .int (w * y + x)), (0, .ref 8), (1, .int x), (2, .int y), (3, .int 1)], [], (((hp.set 8 (3, [.int w, .int h, .ref b2, .ref b3, .ref b4, .ref b5, .ref b6, .int fc, .long (sh ^^^ (1 <<< (Int32.toInt64 (w * y + x) &&& 63))), .int fd]))).set 8 (3, [.int w, .int h, .ref b2, .ref b3, .ref b4, .ref b5, .ref b6, .int fc, .long (sh ^^^ (1 <<< (Int32.toInt64 (w * y + x) &&& 63))), .int 0]))) _
  refine px_a 1 (f' := (39, [(4, .int (w * y + x)), (0, .ref 8), (1, .int x), (2, .int y), (3, .int 1)], [.int 1], (((hp.set 8 (3, [.int w, .int h, .ref b2, .ref b3, .ref b4, .ref b5, .ref b6, .int fc, .long (sh ^^^ (1 <<< (Int32.toInt64 (w * y + x) &&& 63))), .int fd]))).set 8 (3, [.int w, .int h, .ref b2, .ref b3, .ref b4, .ref b5, .ref b6, .int fc, .long (sh ^^^ (1 <<< (Int32.toInt64 (w * y + x) &&& 63))), .int 0])))) rfl ?_
  exact px_ri rfl rfl rfl
set_option maxRecDepth 20000 in
theorem c_cell_10 {d : Nat} {hp : px_H} {b2 b3 b4 b5 b6 : Nat} {fc fd : Int32} {sh : Int64} {w h : Int32} {x y : Int32} (hc : hp[(8 : Nat)]? = some (3, [.int w, .int h, .ref b2, .ref b3, .ref b4, .ref b5, .ref b6, .int fc, .long sh, .int fd])) (ho : ¬ (x < 0 ∨ w ≤ x ∨ y < 0 ∨ h ≤ y)) (hz : ¬ (lg_cmp (sh >>> (Int32.toInt64 (w * y + x) &&& 63) &&& 1) 0) = 0) : px_Go (d + 1) 46 (0, [(0, .ref 8), (1, .int x), (2, .int y), (3, .int 0)], [], hp) (.inl (some (.int 1)), (hp.set 8 (3, [.int w, .int h, .ref b2, .ref b3, .ref b4, .ref b5, .ref b6, .int fc, .long (sh ^^^ 1 <<< (Int32.toInt64 (w * y + x) &&& 63)), .int fd])).set 8 (3, [.int w, .int h, .ref b2, .ref b3, .ref b4, .ref b5, .ref b6, .int fc, .long (sh ^^^ 1 <<< (Int32.toInt64 (w * y + x) &&& 63)), .int 0])) := by
  refine px_a 3 (f' := (3, [(0, .ref 8), (1, .int x), (2, .int y), (3, .int 0)], [.int y, .int x, .ref 8], hp)) rfl ?_
  refine px_cv 8 (as := [.int x, .int y]) (rest := []) rfl rfl hc rfl rfl rfl rfl (Nat.le_of_ble_eq_true rfl) (c_num_i hc ho) ?_
  show px_Go _ _ (6, [(0, .ref 8), (1, .int x), (2, .int y), (3, .int 0)], [.int (w * y + x)], hp) _
  refine px_a 3 (f' := (11, [(4, .int (w * y + x)), (0, .ref 8), (1, .int x), (2, .int y), (3, .int 0)], [.int (w * y + x), .ref 8], hp)) rfl ?_
  refine px_cv 8 (as := [.int (w * y + x)]) (rest := []) rfl rfl hc rfl rfl rfl rfl (Nat.le_of_ble_eq_true rfl) (c_in_1 hc hz) ?_
  show px_Go _ _ (14, [(4, .int (w * y + x)), (0, .ref 8), (1, .int x), (2, .int y), (3, .int 0)], [.int 1], hp) _
  refine px_a 4 (f' := (22, [(4, .int (w * y + x)), (0, .ref 8), (1, .int x), (2, .int y), (3, .int 0)], [.ref 8, .ref 8], hp)) rfl ?_
  refine px_gf 8 64 3 8 (.long sh) rfl rfl hc rfl ?_
  show px_Go _ _ (25, [(4, .int (w * y + x)), (0, .ref 8), (1, .int x), (2, .int y), (3, .int 0)], [.long sh, .ref 8], hp) _
  refine px_a 4 (f' := (30, [(4, .int (w * y + x)), (0, .ref 8), (1, .int x), (2, .int y), (3, .int 0)], [.long (sh ^^^ (1 <<< (Int32.toInt64 (w * y + x) &&& 63))), .ref 8], hp)) rfl ?_
  refine px_pf 8 64 3 8 rfl rfl hc (by omega) (by simp) rfl rfl (by decide) ?_
  have hf1_8 : (hp.set 8 (3, [.int w, .int h, .ref b2, .ref b3, .ref b4, .ref b5, .ref b6, .int fc, .long (sh ^^^ (1 <<< (Int32.toInt64 (w * y + x) &&& 63))), .int fd]))[(8 : Nat)]? = some (3, [.int w, .int h, .ref b2, .ref b3, .ref b4, .ref b5, .ref b6, .int fc, .long (sh ^^^ (1 <<< (Int32.toInt64 (w * y + x) &&& 63))), .int fd]) := px_self hc
  show px_Go _ _ (33, [(4, .int (w * y + x)), (0, .ref 8), (1, .int x), (2, .int y), (3, .int 0)], [], (hp.set 8 (3, [.int w, .int h, .ref b2, .ref b3, .ref b4, .ref b5, .ref b6, .int fc, .long (sh ^^^ (1 <<< (Int32.toInt64 (w * y + x) &&& 63))), .int fd]))) _
  refine px_a 2 (f' := (35, [(4, .int (w * y + x)), (0, .ref 8), (1, .int x), (2, .int y), (3, .int 0)], [.int 0, .ref 8], (hp.set 8 (3, [.int w, .int h, .ref b2, .ref b3, .ref b4, .ref b5, .ref b6, .int fc, .long (sh ^^^ (1 <<< (Int32.toInt64 (w * y + x) &&& 63))), .int fd])))) rfl ?_
  refine px_pf 8 68 3 9 rfl rfl hf1_8 (by omega) (by simp) rfl rfl (by decide) ?_
  have hf2_8 : (((hp.set 8 (3, [.int w, .int h, .ref b2, .ref b3, .ref b4, .ref b5, .ref b6, .int fc, .long (sh ^^^ (1 <<< (Int32.toInt64 (w * y + x) &&& 63))), .int fd]))).set 8 (3, [.int w, .int h, .ref b2, .ref b3, .ref b4, .ref b5, .ref b6, .int fc, .long (sh ^^^ (1 <<< (Int32.toInt64 (w * y + x) &&& 63))), .int 0]))[(8 : Nat)]? = some (3, [.int w, .int h, .ref b2, .ref b3, .ref b4, .ref b5, .ref b6, .int fc, .long (sh ^^^ (1 <<< (Int32.toInt64 (w * y + x) &&& 63))), .int 0]) := px_self hf1_8
  show px_Go _ _ (38, [(4, .int (w * y + x)), (0, .ref 8), (1, .int x), (2, .int y), (3, .int 0)], [], (((hp.set 8 (3, [.int w, .int h, .ref b2, .ref b3, .ref b4, .ref b5, .ref b6, .int fc, .long (sh ^^^ (1 <<< (Int32.toInt64 (w * y + x) &&& 63))), .int fd]))).set 8 (3, [.int w, .int h, .ref b2, .ref b3, .ref b4, .ref b5, .ref b6, .int fc, .long (sh ^^^ (1 <<< (Int32.toInt64 (w * y + x) &&& 63))), .int 0]))) _
  refine px_a 1 (f' := (39, [(4, .int (w * y + x)), (0, .ref 8), (1, .int x), (2, .int y), (3, .int 0)], [.int 1], (((hp.set 8 (3, [.int w, .int h, .ref b2, .ref b3, .ref b4, .ref b5, .ref b6, .int fc, .long (sh ^^^ (1 <<< (Int32.toInt64 (w * y + x) &&& 63))), .int fd]))).set 8 (3, [.int w, .int h, .ref b2, .ref b3, .ref b4, .ref b5, .ref b6, .int fc, .long (sh ^^^ (1 <<< (Int32.toInt64 (w * y + x) &&& 63))), .int 0])))) rfl ?_
  exact px_ri rfl rfl rfl
set_option maxRecDepth 20000 in
theorem c_cell_11 {d : Nat} {hp : px_H} {b2 b3 b4 b5 b6 : Nat} {fc fd : Int32} {sh : Int64} {w h : Int32} {x y : Int32} (hc : hp[(8 : Nat)]? = some (3, [.int w, .int h, .ref b2, .ref b3, .ref b4, .ref b5, .ref b6, .int fc, .long sh, .int fd])) (ho : ¬ (x < 0 ∨ w ≤ x ∨ y < 0 ∨ h ≤ y)) (hz : ¬ (lg_cmp (sh >>> (Int32.toInt64 (w * y + x) &&& 63) &&& 1) 0) = 0) : px_Go (d + 1) 46 (0, [(0, .ref 8), (1, .int x), (2, .int y), (3, .int 1)], [], hp) (.inl (some (.int 0)), hp) := by
  refine px_a 3 (f' := (3, [(0, .ref 8), (1, .int x), (2, .int y), (3, .int 1)], [.int y, .int x, .ref 8], hp)) rfl ?_
  refine px_cv 8 (as := [.int x, .int y]) (rest := []) rfl rfl hc rfl rfl rfl rfl (Nat.le_of_ble_eq_true rfl) (c_num_i hc ho) ?_
  show px_Go _ _ (6, [(0, .ref 8), (1, .int x), (2, .int y), (3, .int 1)], [.int (w * y + x)], hp) _
  refine px_a 3 (f' := (11, [(4, .int (w * y + x)), (0, .ref 8), (1, .int x), (2, .int y), (3, .int 1)], [.int (w * y + x), .ref 8], hp)) rfl ?_
  refine px_cv 8 (as := [.int (w * y + x)]) (rest := []) rfl rfl hc rfl rfl rfl rfl (Nat.le_of_ble_eq_true rfl) (c_in_1 hc hz) ?_
  show px_Go _ _ (14, [(4, .int (w * y + x)), (0, .ref 8), (1, .int x), (2, .int y), (3, .int 1)], [.int 1], hp) _
  refine px_a 3 (f' := (19, [(4, .int (w * y + x)), (0, .ref 8), (1, .int x), (2, .int y), (3, .int 1)], [.int 0], hp)) rfl ?_
  exact px_ri rfl rfl rfl
set_option maxRecDepth 20000 in
theorem c_own_o {d : Nat} {hp : px_H} {b2 b3 b4 b5 b6 : Nat} {fc fd : Int32} {sh : Int64} {w h : Int32} {x y v : Int32} (hc : hp[(8 : Nat)]? = some (3, [.int w, .int h, .ref b2, .ref b3, .ref b4, .ref b5, .ref b6, .int fc, .long sh, .int fd])) (ho : (x < 0 ∨ w ≤ x ∨ y < 0 ∨ h ≤ y)) : px_Go (d + 1) 54 (0, [(0, .ref 8), (1, .int x), (2, .int y), (3, .int v)], [], hp) (.inr "java/lang/ArrayIndexOutOfBoundsException", (px_exc hp)) := by
  refine px_a 3 (f' := (3, [(0, .ref 8), (1, .int x), (2, .int y), (3, .int v)], [.int y, .int x, .ref 8], hp)) rfl ?_
  exact px_cvt 8 (as := [.int x, .int y]) (rest := []) rfl rfl hc rfl rfl rfl rfl (Nat.le_of_ble_eq_true rfl) (c_num_o hc ho) (px_hdn (by decide)) rfl
set_option maxRecDepth 20000 in
theorem c_own_1 {d : Nat} {hp : px_H} {b2 b3 b4 b5 b6 : Nat} {fc fd : Int32} {sh : Int64} {w h : Int32} {x y v : Int32} (hc : hp[(8 : Nat)]? = some (3, [.int w, .int h, .ref b2, .ref b3, .ref b4, .ref b5, .ref b6, .int fc, .long sh, .int fd])) (ho : ¬ (x < 0 ∨ w ≤ x ∨ y < 0 ∨ h ≤ y)) (h1 : v < -99) : px_Go (d + 1) 54 (0, [(0, .ref 8), (1, .int x), (2, .int y), (3, .int v)], [], hp) (.inl (some (.int 0)), hp) := by
  refine px_a 3 (f' := (3, [(0, .ref 8), (1, .int x), (2, .int y), (3, .int v)], [.int y, .int x, .ref 8], hp)) rfl ?_
  refine px_cv 8 (as := [.int x, .int y]) (rest := []) rfl rfl hc rfl rfl rfl rfl (Nat.le_of_ble_eq_true rfl) (c_num_i hc ho) ?_
  show px_Go _ _ (6, [(0, .ref 8), (1, .int x), (2, .int y), (3, .int v)], [.int (w * y + x)], hp) _
  refine px_a 3 (f' := (11, [(4, .int (w * y + x)), (0, .ref 8), (1, .int x), (2, .int y), (3, .int v)], [.int (-99), .int v], hp)) rfl ?_
  refine px_b2 true 20 rfl rfl (decide_eq_true h1) ?_
  show px_Go _ _ (20, [(4, .int (w * y + x)), (0, .ref 8), (1, .int x), (2, .int y), (3, .int v)], [], hp) _
  refine px_a 1 (f' := (21, [(4, .int (w * y + x)), (0, .ref 8), (1, .int x), (2, .int y), (3, .int v)], [.int 0], hp)) rfl ?_
  exact px_ri rfl rfl rfl
set_option maxRecDepth 20000 in
theorem c_own_2 {d : Nat} {hp : px_H} {b2 b3 b4 b5 b6 : Nat} {fc fd : Int32} {sh : Int64} {w h : Int32} {x y v : Int32} (hc : hp[(8 : Nat)]? = some (3, [.int w, .int h, .ref b2, .ref b3, .ref b4, .ref b5, .ref b6, .int fc, .long sh, .int fd])) (ho : ¬ (x < 0 ∨ w ≤ x ∨ y < 0 ∨ h ≤ y)) (h1 : ¬ v < -99) (h2 : ¬ v ≤ 99) : px_Go (d + 1) 54 (0, [(0, .ref 8), (1, .int x), (2, .int y), (3, .int v)], [], hp) (.inl (some (.int 0)), hp) := by
  refine px_a 3 (f' := (3, [(0, .ref 8), (1, .int x), (2, .int y), (3, .int v)], [.int y, .int x, .ref 8], hp)) rfl ?_
  refine px_cv 8 (as := [.int x, .int y]) (rest := []) rfl rfl hc rfl rfl rfl rfl (Nat.le_of_ble_eq_true rfl) (c_num_i hc ho) ?_
  show px_Go _ _ (6, [(0, .ref 8), (1, .int x), (2, .int y), (3, .int v)], [.int (w * y + x)], hp) _
  refine px_a 3 (f' := (11, [(4, .int (w * y + x)), (0, .ref 8), (1, .int x), (2, .int y), (3, .int v)], [.int (-99), .int v], hp)) rfl ?_
  refine px_b2 false 20 rfl rfl (decide_eq_false h1) ?_
  show px_Go _ _ (14, [(4, .int (w * y + x)), (0, .ref 8), (1, .int x), (2, .int y), (3, .int v)], [], hp) _
  refine px_a 2 (f' := (17, [(4, .int (w * y + x)), (0, .ref 8), (1, .int x), (2, .int y), (3, .int v)], [.int 99, .int v], hp)) rfl ?_
  refine px_b2 false 22 rfl rfl (decide_eq_false h2) ?_
  show px_Go _ _ (20, [(4, .int (w * y + x)), (0, .ref 8), (1, .int x), (2, .int y), (3, .int v)], [], hp) _
  refine px_a 1 (f' := (21, [(4, .int (w * y + x)), (0, .ref 8), (1, .int x), (2, .int y), (3, .int v)], [.int 0], hp)) rfl ?_
  exact px_ri rfl rfl rfl
set_option maxRecDepth 20000 in
theorem c_own_3 {d : Nat} {hp : px_H} {b2 b3 b4 b5 b6 : Nat} {fc fd : Int32} {sh : Int64} {w h : Int32} {x y v : Int32} {vo : List Value} (hc : hp[(8 : Nat)]? = some (3, [.int w, .int h, .ref b2, .ref b3, .ref b4, .ref b5, .ref b6, .int fc, .long sh, .int fd])) (ho : ¬ (x < 0 ∨ w ≤ x ∨ y < 0 ∨ h ≤ y)) (h1 : ¬ v < -99) (h2 : v ≤ 99) (hw : hp[b3]? = some (10, vo)) (g3 : 8 ≤ b3) (n3 : 8 ≠ b3) (hk0 : ¬ (w * y + x) < 0) (hkn : (w * y + x).toNatClampNeg < vo.length) : px_Go (d + 1) 54 (0, [(0, .ref 8), (1, .int x), (2, .int y), (3, .int v)], [], hp) (.inl (some (.int 1)), hp.set b3 (10, vo.set (w * y + x).toNatClampNeg (.int v))) := by
  refine px_a 3 (f' := (3, [(0, .ref 8), (1, .int x), (2, .int y), (3, .int v)], [.int y, .int x, .ref 8], hp)) rfl ?_
  refine px_cv 8 (as := [.int x, .int y]) (rest := []) rfl rfl hc rfl rfl rfl rfl (Nat.le_of_ble_eq_true rfl) (c_num_i hc ho) ?_
  show px_Go _ _ (6, [(0, .ref 8), (1, .int x), (2, .int y), (3, .int v)], [.int (w * y + x)], hp) _
  refine px_a 3 (f' := (11, [(4, .int (w * y + x)), (0, .ref 8), (1, .int x), (2, .int y), (3, .int v)], [.int (-99), .int v], hp)) rfl ?_
  refine px_b2 false 20 rfl rfl (decide_eq_false h1) ?_
  show px_Go _ _ (14, [(4, .int (w * y + x)), (0, .ref 8), (1, .int x), (2, .int y), (3, .int v)], [], hp) _
  refine px_a 2 (f' := (17, [(4, .int (w * y + x)), (0, .ref 8), (1, .int x), (2, .int y), (3, .int v)], [.int 99, .int v], hp)) rfl ?_
  refine px_b2 true 22 rfl rfl (decide_eq_true h2) ?_
  show px_Go _ _ (22, [(4, .int (w * y + x)), (0, .ref 8), (1, .int x), (2, .int y), (3, .int v)], [], hp) _
  refine px_a 1 (f' := (23, [(4, .int (w * y + x)), (0, .ref 8), (1, .int x), (2, .int y), (3, .int v)], [.ref 8], hp)) rfl ?_
  refine px_gf 8 34 3 3 (.ref b3) rfl rfl hc rfl ?_
  show px_Go _ _ (26, [(4, .int (w * y + x)), (0, .ref 8), (1, .int x), (2, .int y), (3, .int v)], [.ref b3], hp) _
  refine px_a 2 (f' := (29, [(4, .int (w * y + x)), (0, .ref 8), (1, .int x), (2, .int y), (3, .int v)], [.int v, .int (w * y + x), .ref b3], hp)) rfl ?_
  refine px_ias b3 rfl hw (by omega) (hk0) (hkn) ?_
  have hf1_8 : (hp.set b3 (10, (vo.set (w * y + x).toNatClampNeg (.int v))))[(8 : Nat)]? = some (3, [.int w, .int h, .ref b2, .ref b3, .ref b4, .ref b5, .ref b6, .int fc, .long sh, .int fd]) := px_ne hc (by omega)
  have hf1_b3 : (hp.set b3 (10, (vo.set (w * y + x).toNatClampNeg (.int v))))[b3]? = some (10, (vo.set (w * y + x).toNatClampNeg (.int v))) := px_self hw
  show px_Go _ _ (30, [(4, .int (w * y + x)), (0, .ref 8), (1, .int x), (2, .int y), (3, .int v)], [], (hp.set b3 (10, (vo.set (w * y + x).toNatClampNeg (.int v))))) _
  refine px_a 1 (f' := (31, [(4, .int (w * y + x)), (0, .ref 8), (1, .int x), (2, .int y), (3, .int v)], [.int 1], (hp.set b3 (10, (vo.set (w * y + x).toNatClampNeg (.int v)))))) rfl ?_
  exact px_ri rfl rfl rfl
set_option maxRecDepth 20000 in
theorem c_weight_o {d : Nat} {hp : px_H} {b2 b3 b4 b5 b6 : Nat} {fc fd : Int32} {sh : Int64} {w h : Int32} {x y : Int32} (hc : hp[(8 : Nat)]? = some (3, [.int w, .int h, .ref b2, .ref b3, .ref b4, .ref b5, .ref b6, .int fc, .long sh, .int fd])) (ho : (x < 0 ∨ w ≤ x ∨ y < 0 ∨ h ≤ y)) : px_Go (d + 1) 67 (0, [(0, .ref 8), (1, .int x), (2, .int y)], [], hp) (.inr "java/lang/ArrayIndexOutOfBoundsException", (px_exc hp)) := by
  refine px_a 3 (f' := (3, [(0, .ref 8), (1, .int x), (2, .int y)], [.int y, .int x, .ref 8], hp)) rfl ?_
  exact px_cvt 8 (as := [.int x, .int y]) (rest := []) rfl rfl hc rfl rfl rfl rfl (Nat.le_of_ble_eq_true rfl) (c_num_o hc ho) (px_hdn (by decide)) rfl
set_option maxRecDepth 20000 in
theorem c_weight_n {d : Nat} {hp : px_H} {b2 b3 b4 b5 b6 : Nat} {fc : Int32} {sh : Int64} {w h : Int32} {x y : Int32} (hc : hp[(8 : Nat)]? = some (3, [.int w, .int h, .ref b2, .ref b3, .ref b4, .ref b5, .ref b6, .int fc, .long sh, .int 0])) (ho : ¬ (x < 0 ∨ w ≤ x ∨ y < 0 ∨ h ≤ y)) : px_Go (d + 1) 67 (0, [(0, .ref 8), (1, .int x), (2, .int y)], [], hp) (.inl (some (.int (-1))), hp) := by
  refine px_a 3 (f' := (3, [(0, .ref 8), (1, .int x), (2, .int y)], [.int y, .int x, .ref 8], hp)) rfl ?_
  refine px_cv 8 (as := [.int x, .int y]) (rest := []) rfl rfl hc rfl rfl rfl rfl (Nat.le_of_ble_eq_true rfl) (c_num_i hc ho) ?_
  show px_Go _ _ (6, [(0, .ref 8), (1, .int x), (2, .int y)], [.int (w * y + x)], hp) _
  refine px_a 2 (f' := (8, [(3, .int (w * y + x)), (0, .ref 8), (1, .int x), (2, .int y)], [.ref 8], hp)) rfl ?_
  refine px_gf 8 68 3 9 (.int 0) rfl rfl hc rfl ?_
  show px_Go _ _ (11, [(3, .int (w * y + x)), (0, .ref 8), (1, .int x), (2, .int y)], [.int 0], hp) _
  refine px_a 2 (f' := (23, [(3, .int (w * y + x)), (0, .ref 8), (1, .int x), (2, .int y)], [.int (-1)], hp)) rfl ?_
  exact px_ri rfl rfl rfl
set_option maxRecDepth 20000 in
theorem c_text_n {d : Nat} {hp : px_H} {b2 b3 b4 b5 b6 : Nat} {fc : Int32} {sh : Int64} {w h : Int32} {q : Int32} (hc : hp[(8 : Nat)]? = some (3, [.int w, .int h, .ref b2, .ref b3, .ref b4, .ref b5, .ref b6, .int fc, .long sh, .int 0])) : px_Go d 66 (0, [(0, .ref 8), (1, .int q)], [], hp) (.inl (some (.int (-1))), hp) := by
  refine px_a 1 (f' := (1, [(0, .ref 8), (1, .int q)], [.ref 8], hp)) rfl ?_
  refine px_gf 8 18 3 0 (.int w) rfl rfl hc rfl ?_
  show px_Go _ _ (4, [(0, .ref 8), (1, .int q)], [.int w], hp) _
  refine px_a 4 (f' := (8, [(2, .int (w + 1)), (0, .ref 8), (1, .int q)], [.ref 8], hp)) rfl ?_
  refine px_gf 8 68 3 9 (.int 0) rfl rfl hc rfl ?_
  show px_Go _ _ (11, [(2, .int (w + 1)), (0, .ref 8), (1, .int q)], [.int 0], hp) _
  refine px_a 2 (f' := (29, [(2, .int (w + 1)), (0, .ref 8), (1, .int q)], [.int (-1)], hp)) rfl ?_
  exact px_ri rfl rfl rfl
set_option maxRecDepth 20000 in
theorem c_piece_0 {d : Nat} {hp : px_H} {b2 b3 b4 b5 b6 : Nat} {fd : Int32} {sh : Int64} {w h : Int32} (hc : hp[(8 : Nat)]? = some (3, [.int w, .int h, .ref b2, .ref b3, .ref b4, .ref b5, .ref b6, .int 0, .long sh, .int fd])) : px_Go d 56 (0, [(0, .ref 8)], [], hp) (.inl (some (.int 0)), (hp.set 8 (3, [.int w, .int h, .ref b2, .ref b3, .ref b4, .ref b5, .ref b6, .int 0, .long sh, .int 0])).set 8 (3, [.int w, .int h, .ref b2, .ref b3, .ref b4, .ref b5, .ref b6, .int 1, .long sh, .int 0])) := by
  refine px_a 1 (f' := (1, [(0, .ref 8)], [.ref 8], hp)) rfl ?_
  refine px_gf 8 72 3 7 (.int 0) rfl rfl hc rfl ?_
  show px_Go _ _ (4, [(0, .ref 8)], [.int 0], hp) _
  refine px_a 4 (f' := (13, [(0, .ref 8)], [.int 0, .ref 8], hp)) rfl ?_
  refine px_pf 8 68 3 9 rfl rfl hc (by omega) (by simp) rfl rfl (by decide) ?_
  have hf1_8 : (hp.set 8 (3, [.int w, .int h, .ref b2, .ref b3, .ref b4, .ref b5, .ref b6, .int 0, .long sh, .int 0]))[(8 : Nat)]? = some (3, [.int w, .int h, .ref b2, .ref b3, .ref b4, .ref b5, .ref b6, .int 0, .long sh, .int 0]) := px_self hc
  show px_Go _ _ (16, [(0, .ref 8)], [], (hp.set 8 (3, [.int w, .int h, .ref b2, .ref b3, .ref b4, .ref b5, .ref b6, .int 0, .long sh, .int 0]))) _
  refine px_a 2 (f' := (18, [(0, .ref 8)], [.ref 8, .ref 8], (hp.set 8 (3, [.int w, .int h, .ref b2, .ref b3, .ref b4, .ref b5, .ref b6, .int 0, .long sh, .int 0])))) rfl ?_
  refine px_gf 8 72 3 7 (.int 0) rfl rfl hf1_8 rfl ?_
  show px_Go _ _ (21, [(0, .ref 8)], [.int 0, .ref 8], (hp.set 8 (3, [.int w, .int h, .ref b2, .ref b3, .ref b4, .ref b5, .ref b6, .int 0, .long sh, .int 0]))) _
  refine px_a 2 (f' := (23, [(0, .ref 8)], [.int 1, .ref 8], (hp.set 8 (3, [.int w, .int h, .ref b2, .ref b3, .ref b4, .ref b5, .ref b6, .int 0, .long sh, .int 0])))) rfl ?_
  refine px_pf 8 72 3 7 rfl rfl hf1_8 (by omega) (by simp) rfl rfl (by decide) ?_
  have hf2_8 : (((hp.set 8 (3, [.int w, .int h, .ref b2, .ref b3, .ref b4, .ref b5, .ref b6, .int 0, .long sh, .int 0]))).set 8 (3, [.int w, .int h, .ref b2, .ref b3, .ref b4, .ref b5, .ref b6, .int 1, .long sh, .int 0]))[(8 : Nat)]? = some (3, [.int w, .int h, .ref b2, .ref b3, .ref b4, .ref b5, .ref b6, .int 1, .long sh, .int 0]) := px_self hf1_8
  show px_Go _ _ (26, [(0, .ref 8)], [], (((hp.set 8 (3, [.int w, .int h, .ref b2, .ref b3, .ref b4, .ref b5, .ref b6, .int 0, .long sh, .int 0]))).set 8 (3, [.int w, .int h, .ref b2, .ref b3, .ref b4, .ref b5, .ref b6, .int 1, .long sh, .int 0]))) _
  refine px_a 1 (f' := (27, [(0, .ref 8)], [.ref 8], (((hp.set 8 (3, [.int w, .int h, .ref b2, .ref b3, .ref b4, .ref b5, .ref b6, .int 0, .long sh, .int 0]))).set 8 (3, [.int w, .int h, .ref b2, .ref b3, .ref b4, .ref b5, .ref b6, .int 1, .long sh, .int 0])))) rfl ?_
  refine px_gf 8 72 3 7 (.int 1) rfl rfl hf2_8 rfl ?_
  show px_Go _ _ (30, [(0, .ref 8)], [.int 1], (((hp.set 8 (3, [.int w, .int h, .ref b2, .ref b3, .ref b4, .ref b5, .ref b6, .int 0, .long sh, .int 0]))).set 8 (3, [.int w, .int h, .ref b2, .ref b3, .ref b4, .ref b5, .ref b6, .int 1, .long sh, .int 0]))) _
  refine px_a 2 (f' := (32, [(0, .ref 8)], [.int 0], (((hp.set 8 (3, [.int w, .int h, .ref b2, .ref b3, .ref b4, .ref b5, .ref b6, .int 0, .long sh, .int 0]))).set 8 (3, [.int w, .int h, .ref b2, .ref b3, .ref b4, .ref b5, .ref b6, .int 1, .long sh, .int 0])))) rfl ?_
  exact px_ri rfl rfl rfl
set_option maxRecDepth 20000 in
theorem c_square_o {d : Nat} {hp : px_H} {b2 b3 b4 b5 b6 : Nat} {fc fd : Int32} {sh : Int64} {w h : Int32} {q x y : Int32} (hc : hp[(8 : Nat)]? = some (3, [.int w, .int h, .ref b2, .ref b3, .ref b4, .ref b5, .ref b6, .int fc, .long sh, .int fd])) (ho : q < 0 ∨ fc ≤ q) : px_Go (d + 1) 64 (0, [(0, .ref 8), (1, .int q), (2, .int x), (3, .int y)], [], hp) (.inr "java/lang/ArrayIndexOutOfBoundsException", (px_exc hp)) := by
  refine px_a 2 (f' := (2, [(0, .ref 8), (1, .int q), (2, .int x), (3, .int y)], [.int q, .ref 8], hp)) rfl ?_
  exact px_cvt 8 (as := [.int q]) (rest := []) rfl rfl hc rfl rfl rfl rfl (Nat.le_of_ble_eq_true rfl) (c_form_o hc ho) (px_hdn (by decide)) rfl
set_option maxRecDepth 20000 in
theorem c_placements_o {d : Nat} {hp : px_H} {b2 b3 b4 b5 b6 : Nat} {fc fd : Int32} {sh : Int64} {w h : Int32} {q : Int32} (hc : hp[(8 : Nat)]? = some (3, [.int w, .int h, .ref b2, .ref b3, .ref b4, .ref b5, .ref b6, .int fc, .long sh, .int fd])) (ho : q < 0 ∨ fc ≤ q) : px_Go (d + 1) 58 (0, [(0, .ref 8), (1, .int q)], [], hp) (.inr "java/lang/ArrayIndexOutOfBoundsException", (px_exc hp)) := by
  refine px_a 2 (f' := (2, [(0, .ref 8), (1, .int q)], [.int q, .ref 8], hp)) rfl ?_
  exact px_cvt 8 (as := [.int q]) (rest := []) rfl rfl hc rfl rfl rfl rfl (Nat.le_of_ble_eq_true rfl) (c_form_o hc ho) (px_hdn (by decide)) rfl
set_option maxRecDepth 20000 in
theorem c_placement_o {d : Nat} {hp : px_H} {b2 b3 b4 b5 b6 : Nat} {fc fd : Int32} {sh : Int64} {w h : Int32} {q x y : Int32} (hc : hp[(8 : Nat)]? = some (3, [.int w, .int h, .ref b2, .ref b3, .ref b4, .ref b5, .ref b6, .int fc, .long sh, .int fd])) (ho : q < 0 ∨ fc ≤ q) : px_Go (d + 1) 57 (0, [(0, .ref 8), (1, .int q), (2, .int x), (3, .int y)], [], hp) (.inr "java/lang/ArrayIndexOutOfBoundsException", (px_exc hp)) := by
  refine px_a 2 (f' := (2, [(0, .ref 8), (1, .int q), (2, .int x), (3, .int y)], [.int q, .ref 8], hp)) rfl ?_
  exact px_cvt 8 (as := [.int q]) (rest := []) rfl rfl hc rfl rfl rfl rfl (Nat.le_of_ble_eq_true rfl) (c_form_o hc ho) (px_hdn (by decide)) rfl
